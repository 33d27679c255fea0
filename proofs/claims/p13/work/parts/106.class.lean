theorem u_381 : Cond.code yX2_isEmpty cX2_isEmpty 1 (some .boolean) ∈ yU := yu_tables_1_2 85 (by decide +kernel) (by decide +kernel)
theorem u_385 : Cond.code yX2_isBetterThan cX2_isBetterThan 2 (some .boolean) ∈ yU := yu_tables_1_2 89 (by decide +kernel) (by decide +kernel)
theorem u_176 : Cond.fieldLink RX3 18 "Pulsemesh$Results" "rows" "I" ∈ yU := yu_tables_1_1 120 (by decide +kernel) (by decide +kernel)
theorem u_178 : Cond.fieldLink RX3 22 "Pulsemesh$Results" "columns" "I" ∈ yU := yu_tables_1_1 122 (by decide +kernel) (by decide +kernel)
theorem u_180 : Cond.fieldLink RX3 25 "Pulsemesh$Results" "haveSums" "Z" ∈ yU := yu_tables_1_1 124 (by decide +kernel) (by decide +kernel)
theorem u_786 : Cond.code yX3_clear cX3_clear 1 none ∈ yU := yu_tables_1_4 10 (by decide +kernel) (by decide +kernel)
theorem u_61 : Cond.initialized RX3 ∈ yU := yu_tables_1_1 5 (by decide +kernel) (by decide +kernel)
theorem u_827 : Cond.methodLink RX3 29 yX1_rowsInAll ∈ yU := yu_tables_1_4 51 (by decide +kernel) (by decide +kernel)
theorem u_828 : Cond.methodLink RX3 35 yX1_columnsInAll ∈ yU := yu_tables_1_4 52 (by decide +kernel) (by decide +kernel)
theorem u_826 : Cond.code yX3_open cX3_open 2 none ∈ yU := yu_tables_1_4 50 (by decide +kernel) (by decide +kernel)
theorem u_839 : Cond.code yX3_has cX3_has 3 (some .boolean) ∈ yU := yu_tables_1_4 63 (by decide +kernel) (by decide +kernel)
theorem u_173 : Cond.fieldLink RX3 12 "Pulsemesh$Results" "values" "LPulsemesh$Table;" ∈ yU := yu_tables_1_1 117 (by decide +kernel) (by decide +kernel)
theorem u_858 : Cond.methodLink RX3 52 yX4_get ∈ yU := yu_tables_1_4 82 (by decide +kernel) (by decide +kernel)
theorem u_857 : Cond.code yX3_rowError cX3_rowError 4 (some .int) ∈ yU := yu_tables_1_4 81 (by decide +kernel) (by decide +kernel)
theorem dX2_isEmpty_0 : decode cX2_isEmpty 0 = .ok (.aload_n 0, 1) := by decide +kernel
theorem dX2_isEmpty_1 : decode cX2_isEmpty 1 = .ok (.getfield 19, 3) := by decide +kernel
theorem dX2_isEmpty_4 : decode cX2_isEmpty 4 = .ok (.ifCond .eq 10, 3) := by decide +kernel
theorem dX2_isEmpty_7 : decode cX2_isEmpty 7 = .ok (.aload_n 0, 1) := by decide +kernel
theorem dX2_isEmpty_8 : decode cX2_isEmpty 8 = .ok (.getfield 22, 3) := by decide +kernel
theorem dX2_isEmpty_11 : decode cX2_isEmpty 11 = .ok (.ifCond .ne 7, 3) := by decide +kernel
theorem dX2_isEmpty_14 : decode cX2_isEmpty 14 = .ok (.iconst 1, 1) := by decide +kernel
theorem dX2_isEmpty_15 : decode cX2_isEmpty 15 = .ok (.goto 4, 3) := by decide +kernel
theorem dX2_isEmpty_18 : decode cX2_isEmpty 18 = .ok (.iconst 0, 1) := by decide +kernel
theorem dX2_isEmpty_19 : decode cX2_isEmpty 19 = .ok (.ireturn, 1) := by decide +kernel
def fX2_isEmpty (y3 : Int32) (y4 : Int32) : Option (Int32) := (if y3 = 0 then some 1 else (if y4 = 0 then some 1 else some 0))
abbrev hX2_isEmpty : Cond := .code yX2_isEmpty cX2_isEmpty 1 (some .boolean)
theorem mX2_isEmpty : yM yX2_isEmpty hX2_isEmpty 0 := ⟨u_381, u_63, by decide +kernel, by decide +kernel, by decide +kernel⟩
set_option maxHeartbeats 4000000 in
set_option maxRecDepth 100000 in
theorem kX2_isEmpty (l : Launch) (D : va_G) (cy : Nat → ClassId) (y : Nat) (y0 : Int32) (y1 : Int32) (y2 : Int32) (y3 : Int32) (y4 : Int32) (y5 : Int32) (y6 : Int32) (y7 : Int32) (y8 : Int32) (y9 : Int32) {res : Int32} (hR : fX2_isEmpty y3 y4 = some res) : YM l D cy yX2_isEmpty hX2_isEmpty 1 0 0 [.ref y] [[(y, .inr (4, [.int y0, .int y1, .int y2, .int y3, .int y4, .int y5, .int y6, .int y7, .int y8, .int y9]))]] (fun v u => v = some (.int res) ∧ u = [[(y, .inr (4, [.int y0, .int y1, .int y2, .int y3, .int y4, .int y5, .int y6, .int y7, .int y8, .int y9]))]]) := by
  unfold fX2_isEmpty at hR
  refine YM.ofZ (cc := cX2_isEmpty) (maxL := 1) (ret := (some .boolean)) (by decide +kernel) rfl (Nat.le_of_ble_eq_true rfl) [(0, .ref y)] rfl .boolean rfl (fun p e s m args below meth c A H0 Q C hnm ret => ?_)
  refine xr_aload_n (n := 1) (j := 0) C dX2_isEmpty_0 rfl rfl ?_
  refine xr_get (n := 4) C 0 rfl rfl 3 (by decide) in_X2 u_212 rfl (v := .int y3) rfl dX2_isEmpty_1 rfl ?_
  refine xr_if_eq (tgt := 14) (n := 7) C dX2_isEmpty_4 rfl rfl (fun c_1 => ?_) (fun c_1 => ?_)
  · replace hR := yf_t c_1 hR
    refine xr_iconst (n := 15) (v := 1) C dX2_isEmpty_14 rfl rfl ?_
    refine xr_goto (tgt := 19) C dX2_isEmpty_15 rfl ?_
    obtain rfl := Option.some.inj hR
    exact ret 1 (by decide) ⟨rfl, rfl⟩ (Nat.le_of_ble_eq_true rfl) (Nat.le_of_ble_eq_true rfl) dX2_isEmpty_19
  · replace hR := yf_f c_1 hR
    refine xr_aload_n (n := 8) (j := 0) C dX2_isEmpty_7 rfl rfl ?_
    refine xr_get (n := 11) C 0 rfl rfl 4 (by decide) in_X2 u_215 rfl (v := .int y4) rfl dX2_isEmpty_8 rfl ?_
    refine xr_if_ne (tgt := 18) (n := 14) C dX2_isEmpty_11 rfl rfl (fun c_2 => ?_) (fun c_2 => ?_)
    · replace hR := yf_f c_2 hR
      refine xr_iconst (n := 19) (v := 0) C dX2_isEmpty_18 rfl rfl ?_
      obtain rfl := Option.some.inj hR
      exact ret 0 (by decide) ⟨rfl, rfl⟩ (Nat.le_of_ble_eq_true rfl) (Nat.le_of_ble_eq_true rfl) dX2_isEmpty_19
    · replace hR := yf_t c_2 hR
      refine xr_iconst (n := 15) (v := 1) C dX2_isEmpty_14 rfl rfl ?_
      refine xr_goto (tgt := 19) C dX2_isEmpty_15 rfl ?_
      obtain rfl := Option.some.inj hR
      exact ret 1 (by decide) ⟨rfl, rfl⟩ (Nat.le_of_ble_eq_true rfl) (Nat.le_of_ble_eq_true rfl) dX2_isEmpty_19
theorem dX2_isBetterThan_0 : decode cX2_isBetterThan 0 = .ok (.aload_n 0, 1) := by decide +kernel
theorem dX2_isBetterThan_1 : decode cX2_isBetterThan 1 = .ok (.getfield 37, 3) := by decide +kernel
theorem dX2_isBetterThan_4 : decode cX2_isBetterThan 4 = .ok (.aload_n 1, 1) := by decide +kernel
theorem dX2_isBetterThan_5 : decode cX2_isBetterThan 5 = .ok (.getfield 37, 3) := by decide +kernel
theorem dX2_isBetterThan_8 : decode cX2_isBetterThan 8 = .ok (.if_icmp .eq 20, 3) := by decide +kernel
theorem dX2_isBetterThan_11 : decode cX2_isBetterThan 11 = .ok (.aload_n 0, 1) := by decide +kernel
theorem dX2_isBetterThan_12 : decode cX2_isBetterThan 12 = .ok (.getfield 37, 3) := by decide +kernel
theorem dX2_isBetterThan_15 : decode cX2_isBetterThan 15 = .ok (.aload_n 1, 1) := by decide +kernel
theorem dX2_isBetterThan_16 : decode cX2_isBetterThan 16 = .ok (.getfield 37, 3) := by decide +kernel
theorem dX2_isBetterThan_19 : decode cX2_isBetterThan 19 = .ok (.if_icmp .ge 7, 3) := by decide +kernel
theorem dX2_isBetterThan_22 : decode cX2_isBetterThan 22 = .ok (.iconst 1, 1) := by decide +kernel
theorem dX2_isBetterThan_23 : decode cX2_isBetterThan 23 = .ok (.goto 4, 3) := by decide +kernel
theorem dX2_isBetterThan_26 : decode cX2_isBetterThan 26 = .ok (.iconst 0, 1) := by decide +kernel
theorem dX2_isBetterThan_27 : decode cX2_isBetterThan 27 = .ok (.ireturn, 1) := by decide +kernel
theorem dX2_isBetterThan_28 : decode cX2_isBetterThan 28 = .ok (.aload_n 0, 1) := by decide +kernel
theorem dX2_isBetterThan_29 : decode cX2_isBetterThan 29 = .ok (.getfield 25, 3) := by decide +kernel
theorem dX2_isBetterThan_32 : decode cX2_isBetterThan 32 = .ok (.aload_n 0, 1) := by decide +kernel
theorem dX2_isBetterThan_33 : decode cX2_isBetterThan 33 = .ok (.getfield 28, 3) := by decide +kernel
theorem dX2_isBetterThan_36 : decode cX2_isBetterThan 36 = .ok (.imul, 1) := by decide +kernel
theorem dX2_isBetterThan_37 : decode cX2_isBetterThan 37 = .ok (.aload_n 1, 1) := by decide +kernel
theorem dX2_isBetterThan_38 : decode cX2_isBetterThan 38 = .ok (.getfield 25, 3) := by decide +kernel
theorem dX2_isBetterThan_41 : decode cX2_isBetterThan 41 = .ok (.aload_n 1, 1) := by decide +kernel
theorem dX2_isBetterThan_42 : decode cX2_isBetterThan 42 = .ok (.getfield 28, 3) := by decide +kernel
theorem dX2_isBetterThan_45 : decode cX2_isBetterThan 45 = .ok (.imul, 1) := by decide +kernel
theorem dX2_isBetterThan_46 : decode cX2_isBetterThan 46 = .ok (.if_icmp .ge 7, 3) := by decide +kernel
theorem dX2_isBetterThan_49 : decode cX2_isBetterThan 49 = .ok (.iconst 1, 1) := by decide +kernel
theorem dX2_isBetterThan_50 : decode cX2_isBetterThan 50 = .ok (.goto 4, 3) := by decide +kernel
theorem dX2_isBetterThan_53 : decode cX2_isBetterThan 53 = .ok (.iconst 0, 1) := by decide +kernel
theorem dX2_isBetterThan_54 : decode cX2_isBetterThan 54 = .ok (.ireturn, 1) := by decide +kernel
def fX2_isBetterThan (y5 : Int32) (y6 : Int32) (y9 : Int32) (t5 : Int32) (t6 : Int32) (t9 : Int32) : Option (Int32) := (if y9 = t9 then (if (t5 * t6) ≤ (y5 * y6) then some 0 else some 1) else (if t9 ≤ y9 then some 0 else some 1))
abbrev hX2_isBetterThan : Cond := .code yX2_isBetterThan cX2_isBetterThan 2 (some .boolean)
theorem mX2_isBetterThan : yM yX2_isBetterThan hX2_isBetterThan 1 := ⟨u_385, u_63, by decide +kernel, by decide +kernel, by decide +kernel⟩
set_option maxHeartbeats 4000000 in
set_option maxRecDepth 100000 in
theorem kX2_isBetterThan (l : Launch) (D : va_G) (cy : Nat → ClassId) (y : Nat) (y0 : Int32) (y1 : Int32) (y2 : Int32) (y3 : Int32) (y4 : Int32) (y5 : Int32) (y6 : Int32) (y7 : Int32) (y8 : Int32) (y9 : Int32) (t : Nat) (t0 : Int32) (t1 : Int32) (t2 : Int32) (t3 : Int32) (t4 : Int32) (t5 : Int32) (t6 : Int32) (t7 : Int32) (t8 : Int32) (t9 : Int32) {res : Int32} (hR : fX2_isBetterThan y5 y6 y9 t5 t6 t9 = some res) : YM l D cy yX2_isBetterThan hX2_isBetterThan 1 0 0 [.ref y, .ref t] [[(y, .inr (4, [.int y0, .int y1, .int y2, .int y3, .int y4, .int y5, .int y6, .int y7, .int y8, .int y9]))], [(t, .inr (4, [.int t0, .int t1, .int t2, .int t3, .int t4, .int t5, .int t6, .int t7, .int t8, .int t9]))]] (fun v u => v = some (.int res) ∧ u = [[(y, .inr (4, [.int y0, .int y1, .int y2, .int y3, .int y4, .int y5, .int y6, .int y7, .int y8, .int y9]))], [(t, .inr (4, [.int t0, .int t1, .int t2, .int t3, .int t4, .int t5, .int t6, .int t7, .int t8, .int t9]))]]) := by
  unfold fX2_isBetterThan at hR
  refine YM.ofZ (cc := cX2_isBetterThan) (maxL := 2) (ret := (some .boolean)) (by decide +kernel) rfl (Nat.le_of_ble_eq_true rfl) [(0, .ref y), (1, .ref t)] rfl .boolean rfl (fun p e s m args below meth c A H0 Q C hnm ret => ?_)
  refine xr_aload_n (n := 1) (j := 0) C dX2_isBetterThan_0 rfl rfl ?_
  refine xr_get (n := 4) C 0 rfl rfl 9 (by decide) in_X2 u_224 rfl (v := .int y9) rfl dX2_isBetterThan_1 rfl ?_
  refine xr_aload_n (n := 5) (j := 1) C dX2_isBetterThan_4 rfl rfl ?_
  refine xr_get (n := 8) C 1 rfl rfl 9 (by decide) in_X2 u_224 rfl (v := .int t9) rfl dX2_isBetterThan_5 rfl ?_
  refine xr_icmp_eq (tgt := 28) (n := 11) C dX2_isBetterThan_8 rfl rfl (fun c_1 => ?_) (fun c_1 => ?_)
  · replace hR := yf_t c_1 hR
    refine xr_aload_n (n := 29) (j := 0) C dX2_isBetterThan_28 rfl rfl ?_
    refine xr_get (n := 32) C 0 rfl rfl 5 (by decide) in_X2 u_218 rfl (v := .int y5) rfl dX2_isBetterThan_29 rfl ?_
    refine xr_aload_n (n := 33) (j := 0) C dX2_isBetterThan_32 rfl rfl ?_
    refine xr_get (n := 36) C 0 rfl rfl 6 (by decide) in_X2 u_220 rfl (v := .int y6) rfl dX2_isBetterThan_33 rfl ?_
    refine xr_imul (n := 37) C dX2_isBetterThan_36 rfl ?_
    refine xr_aload_n (n := 38) (j := 1) C dX2_isBetterThan_37 rfl rfl ?_
    refine xr_get (n := 41) C 1 rfl rfl 5 (by decide) in_X2 u_218 rfl (v := .int t5) rfl dX2_isBetterThan_38 rfl ?_
    refine xr_aload_n (n := 42) (j := 1) C dX2_isBetterThan_41 rfl rfl ?_
    refine xr_get (n := 45) C 1 rfl rfl 6 (by decide) in_X2 u_220 rfl (v := .int t6) rfl dX2_isBetterThan_42 rfl ?_
    refine xr_imul (n := 46) C dX2_isBetterThan_45 rfl ?_
    refine xr_icmp_ge (tgt := 53) (n := 49) C dX2_isBetterThan_46 rfl rfl (fun c_2 => ?_) (fun c_2 => ?_)
    · replace hR := yf_t c_2 hR
      refine xr_iconst (n := 54) (v := 0) C dX2_isBetterThan_53 rfl rfl ?_
      obtain rfl := Option.some.inj hR
      exact ret 0 (by decide) ⟨rfl, rfl⟩ (Nat.le_of_ble_eq_true rfl) (Nat.le_of_ble_eq_true rfl) dX2_isBetterThan_54
    · replace hR := yf_f c_2 hR
      refine xr_iconst (n := 50) (v := 1) C dX2_isBetterThan_49 rfl rfl ?_
      refine xr_goto (tgt := 54) C dX2_isBetterThan_50 rfl ?_
      obtain rfl := Option.some.inj hR
      exact ret 1 (by decide) ⟨rfl, rfl⟩ (Nat.le_of_ble_eq_true rfl) (Nat.le_of_ble_eq_true rfl) dX2_isBetterThan_54
  · replace hR := yf_f c_1 hR
    refine xr_aload_n (n := 12) (j := 0) C dX2_isBetterThan_11 rfl rfl ?_
    refine xr_get (n := 15) C 0 rfl rfl 9 (by decide) in_X2 u_224 rfl (v := .int y9) rfl dX2_isBetterThan_12 rfl ?_
    refine xr_aload_n (n := 16) (j := 1) C dX2_isBetterThan_15 rfl rfl ?_
    refine xr_get (n := 19) C 1 rfl rfl 9 (by decide) in_X2 u_224 rfl (v := .int t9) rfl dX2_isBetterThan_16 rfl ?_
    refine xr_icmp_ge (tgt := 26) (n := 22) C dX2_isBetterThan_19 rfl rfl (fun c_3 => ?_) (fun c_3 => ?_)
    · replace hR := yf_t c_3 hR
      refine xr_iconst (n := 27) (v := 0) C dX2_isBetterThan_26 rfl rfl ?_
      obtain rfl := Option.some.inj hR
      exact ret 0 (by decide) ⟨rfl, rfl⟩ (Nat.le_of_ble_eq_true rfl) (Nat.le_of_ble_eq_true rfl) dX2_isBetterThan_27
    · replace hR := yf_f c_3 hR
      refine xr_iconst (n := 23) (v := 1) C dX2_isBetterThan_22 rfl rfl ?_
      refine xr_goto (tgt := 27) C dX2_isBetterThan_23 rfl ?_
      obtain rfl := Option.some.inj hR
      exact ret 1 (by decide) ⟨rfl, rfl⟩ (Nat.le_of_ble_eq_true rfl) (Nat.le_of_ble_eq_true rfl) dX2_isBetterThan_27
theorem dX3_clear_0 : decode cX3_clear 0 = .ok (.aload_n 0, 1) := by decide +kernel
theorem dX3_clear_1 : decode cX3_clear 1 = .ok (.iconst 0, 1) := by decide +kernel
theorem dX3_clear_2 : decode cX3_clear 2 = .ok (.putfield 18, 3) := by decide +kernel
theorem dX3_clear_5 : decode cX3_clear 5 = .ok (.aload_n 0, 1) := by decide +kernel
theorem dX3_clear_6 : decode cX3_clear 6 = .ok (.iconst 0, 1) := by decide +kernel
theorem dX3_clear_7 : decode cX3_clear 7 = .ok (.putfield 22, 3) := by decide +kernel
theorem dX3_clear_10 : decode cX3_clear 10 = .ok (.aload_n 0, 1) := by decide +kernel
theorem dX3_clear_11 : decode cX3_clear 11 = .ok (.iconst 0, 1) := by decide +kernel
theorem dX3_clear_12 : decode cX3_clear 12 = .ok (.putfield 25, 3) := by decide +kernel
theorem dX3_clear_15 : decode cX3_clear 15 = .ok (.return_, 1) := by decide +kernel
def fX3_clear  : Option (Int32 × Int32 × Int32) := some (0, 0, 0)
abbrev hX3_clear : Cond := .code yX3_clear cX3_clear 1 none
theorem mX3_clear : yM yX3_clear hX3_clear 0 := ⟨u_786, u_61, by decide +kernel, by decide +kernel, by decide +kernel⟩
set_option maxHeartbeats 4000000 in
set_option maxRecDepth 100000 in
theorem kX3_clear (l : Launch) (D : va_G) (cy : Nat → ClassId) (z : Nat) (zv : Nat) (zr : Int32) (zc : Int32) (zs : Int32) {res : Int32 × Int32 × Int32} (hR : fX3_clear  = some res) : YM l D cy yX3_clear hX3_clear 1 0 0 [.ref z] [[(z, .inr (5, [.ref zv, .int zr, .int zc, .int zs]))]] (fun v u => v = none ∧ u = [[(z, .inr (5, [.ref zv, .int res.1, .int res.2.1, .int res.2.2]))]]) := by
  unfold fX3_clear at hR
  refine YM.ofV (cc := cX3_clear) (maxL := 1) (ret := none) (by decide +kernel) rfl (Nat.le_of_ble_eq_true rfl) [(0, .ref z)] rfl rfl (fun p e s m args below meth c A H0 Q C hnm ret => ?_)
  refine xr_aload_n (n := 1) (j := 0) C dX3_clear_0 rfl rfl ?_
  refine xr_iconst (n := 2) (v := 0) C dX3_clear_1 rfl rfl ?_
  refine xr_put (n := 5) C 0 rfl rfl 1 (by decide) in_X3 tyX3 tyX3_ok nmX3 u_176 rfl rfl rfl rfl (Nat.le_of_ble_eq_true rfl) [[(z, .inr (5, [.ref zv, .int 0, .int zc, .int zs]))]] rfl rfl dX3_clear_2 ?_
  refine xr_aload_n (n := 6) (j := 0) C dX3_clear_5 rfl rfl ?_
  refine xr_iconst (n := 7) (v := 0) C dX3_clear_6 rfl rfl ?_
  refine xr_put (n := 10) C 0 rfl rfl 2 (by decide) in_X3 tyX3 tyX3_ok nmX3 u_178 rfl rfl rfl rfl (Nat.le_of_ble_eq_true rfl) [[(z, .inr (5, [.ref zv, .int 0, .int 0, .int zs]))]] rfl rfl dX3_clear_7 ?_
  refine xr_aload_n (n := 11) (j := 0) C dX3_clear_10 rfl rfl ?_
  refine xr_iconst (n := 12) (v := 0) C dX3_clear_11 rfl rfl ?_
  refine xr_put (n := 15) C 0 rfl rfl 3 (by decide) in_X3 tyX3 tyX3_ok nmX3 u_180 rfl rfl (by decide) (by decide) (Nat.le_of_ble_eq_true rfl) [[(z, .inr (5, [.ref zv, .int 0, .int 0, .int 0]))]] rfl rfl dX3_clear_12 ?_
  obtain rfl := Option.some.inj hR
  exact ret ⟨rfl, rfl⟩ (Nat.le_of_ble_eq_true rfl) (Nat.le_of_ble_eq_true rfl) dX3_clear_15
theorem dX3_open_0 : decode cX3_open 0 = .ok (.aload_n 0, 1) := by decide +kernel
theorem dX3_open_1 : decode cX3_open 1 = .ok (.aload_n 1, 1) := by decide +kernel
theorem dX3_open_2 : decode cX3_open 2 = .ok (.invokevirtual 29, 3) := by decide +kernel
theorem dX3_open_5 : decode cX3_open 5 = .ok (.putfield 18, 3) := by decide +kernel
theorem dX3_open_8 : decode cX3_open 8 = .ok (.aload_n 0, 1) := by decide +kernel
theorem dX3_open_9 : decode cX3_open 9 = .ok (.aload_n 1, 1) := by decide +kernel
theorem dX3_open_10 : decode cX3_open 10 = .ok (.invokevirtual 35, 3) := by decide +kernel
theorem dX3_open_13 : decode cX3_open 13 = .ok (.putfield 22, 3) := by decide +kernel
theorem dX3_open_16 : decode cX3_open 16 = .ok (.aload_n 0, 1) := by decide +kernel
theorem dX3_open_17 : decode cX3_open 17 = .ok (.aload_n 1, 1) := by decide +kernel
theorem dX3_open_18 : decode cX3_open 18 = .ok (.getfield 38, 3) := by decide +kernel
theorem dX3_open_21 : decode cX3_open 21 = .ok (.putfield 25, 3) := by decide +kernel
theorem dX3_open_24 : decode cX3_open 24 = .ok (.return_, 1) := by decide +kernel
def fX3_open (jr : Int32) (jc : Int32) (js : Int32) : Option (Int32 × Int32 × Int32) := ((fX1_rowsInAll jr js).bind fun x_1 => ((fX1_columnsInAll jc js).bind fun x_5 => (if js = 0 ∨ js = 1 then some (x_1, x_5, js) else none)))
abbrev hX3_open : Cond := .code yX3_open cX3_open 2 none
theorem mX3_open : yM yX3_open hX3_open 1 := ⟨u_826, u_61, by decide +kernel, by decide +kernel, by decide +kernel⟩
set_option maxHeartbeats 4000000 in
set_option maxRecDepth 100000 in
theorem kX3_open (l : Launch) (D : va_G) (cy : Nat → ClassId) (z : Nat) (zv : Nat) (zr : Int32) (zc : Int32) (zs : Int32) (j : Nat) (ja : Nat) (jb : Nat) (jr : Int32) (jk : Int32) (jc : Int32) (jg : Int32) (js : Int32) {res : Int32 × Int32 × Int32} (hR : fX3_open jr jc js = some res) : YM l D cy yX3_open hX3_open 2 0 0 [.ref z, .ref j] [[(z, .inr (5, [.ref zv, .int zr, .int zc, .int zs]))], [(j, .inr (3, [.ref ja, .ref jb, .int jr, .int jk, .int jc, .int jg, .int js]))]] (fun v u => v = none ∧ u = [[(z, .inr (5, [.ref zv, .int res.1, .int res.2.1, .int res.2.2]))], [(j, .inr (3, [.ref ja, .ref jb, .int jr, .int jk, .int jc, .int jg, .int js]))]]) := by
  unfold fX3_open at hR
  refine YM.ofV (cc := cX3_open) (maxL := 2) (ret := none) (by decide +kernel) rfl (Nat.le_of_ble_eq_true rfl) [(0, .ref z), (1, .ref j)] rfl rfl (fun p e s m args below meth c A H0 Q C hnm ret => ?_)
  refine xr_aload_n (n := 1) (j := 0) C dX3_open_0 rfl rfl ?_
  refine xr_aload_n (n := 2) (j := 1) C dX3_open_1 rfl rfl ?_
  obtain ⟨x_1, hx_1, hR⟩ := yf_b hR
  refine xr_callVp (n := 5) (As := []) (rest := [.ref z]) C (kX1_rowsInAll l D cy (j := j) (ja := ja) (jb := jb) (jr := jr) (jk := jk) (jc := jc) (jg := jg) (js := js) hx_1) mX1_rowsInAll u_827 u_321 u_322 1 rfl rfl 2 [1] [0] rfl (by decide +kernel) rfl rfl rfl rfl (Nat.le_of_ble_eq_true rfl) (Nat.le_of_ble_eq_true rfl) (Nat.le_of_ble_eq_true rfl) (Nat.le_of_ble_eq_true rfl) (Nat.le_of_ble_eq_true rfl) dX3_open_2 rfl (fun _ _ hp => hp.2) (fun v_2 hp_4 => ?_)
  obtain ⟨rfl, -⟩ := hp_4
  refine xr_st (st' := [.int x_1, .ref z]) rfl ?_
  refine xr_put (n := 8) C 0 rfl rfl 1 (by decide) in_X3 tyX3 tyX3_ok nmX3 u_176 rfl rfl rfl rfl (Nat.le_of_ble_eq_true rfl) [[(z, .inr (5, [.ref zv, .int x_1, .int zc, .int zs]))], [(j, .inr (3, [.ref ja, .ref jb, .int jr, .int jk, .int jc, .int jg, .int js]))]] rfl rfl dX3_open_5 ?_
  refine xr_aload_n (n := 9) (j := 0) C dX3_open_8 rfl rfl ?_
  refine xr_aload_n (n := 10) (j := 1) C dX3_open_9 rfl rfl ?_
  obtain ⟨x_5, hx_5, hR⟩ := yf_b hR
  refine xr_callVp (n := 13) (As := []) (rest := [.ref z]) C (kX1_columnsInAll l D cy (j := j) (ja := ja) (jb := jb) (jr := jr) (jk := jk) (jc := jc) (jg := jg) (js := js) hx_5) mX1_columnsInAll u_828 u_325 u_326 1 rfl rfl 2 [1] [0] rfl (by decide +kernel) rfl rfl rfl rfl (Nat.le_of_ble_eq_true rfl) (Nat.le_of_ble_eq_true rfl) (Nat.le_of_ble_eq_true rfl) (Nat.le_of_ble_eq_true rfl) (Nat.le_of_ble_eq_true rfl) dX3_open_10 rfl (fun _ _ hp => hp.2) (fun v_6 hp_8 => ?_)
  obtain ⟨rfl, -⟩ := hp_8
  refine xr_st (st' := [.int x_5, .ref z]) rfl ?_
  refine xr_put (n := 16) C 0 rfl rfl 2 (by decide) in_X3 tyX3 tyX3_ok nmX3 u_178 rfl rfl rfl rfl (Nat.le_of_ble_eq_true rfl) [[(z, .inr (5, [.ref zv, .int x_1, .int x_5, .int zs]))], [(j, .inr (3, [.ref ja, .ref jb, .int jr, .int jk, .int jc, .int jg, .int js]))]] rfl rfl dX3_open_13 ?_
  refine xr_aload_n (n := 17) (j := 0) C dX3_open_16 rfl rfl ?_
  refine xr_aload_n (n := 18) (j := 1) C dX3_open_17 rfl rfl ?_
  refine xr_getN (n := 21) C 1 rfl rfl 6 (by decide) in_X1 RX6 (List.mem_of_getElem? (i := 8) rfl) rfl (v := .int js) rfl dX3_open_18 rfl ?_
  obtain ⟨g_9, hR⟩ := yf_g hR
  refine xr_put (n := 24) C 0 rfl rfl 3 (by decide) in_X3 tyX3 tyX3_ok nmX3 u_180 rfl rfl (ynz_f g_9) (ynz_n g_9) (Nat.le_of_ble_eq_true rfl) [[(z, .inr (5, [.ref zv, .int x_1, .int x_5, .int js]))], [(j, .inr (3, [.ref ja, .ref jb, .int jr, .int jk, .int jc, .int jg, .int js]))]] rfl rfl dX3_open_21 ?_
  obtain rfl := Option.some.inj hR
  exact ret ⟨rfl, rfl⟩ (Nat.le_of_ble_eq_true rfl) (Nat.le_of_ble_eq_true rfl) dX3_open_24
theorem dX3_has_0 : decode cX3_has 0 = .ok (.iload_n 1, 1) := by decide +kernel
theorem dX3_has_1 : decode cX3_has 1 = .ok (.ifCond .lt 27, 3) := by decide +kernel
theorem dX3_has_4 : decode cX3_has 4 = .ok (.iload_n 1, 1) := by decide +kernel
theorem dX3_has_5 : decode cX3_has 5 = .ok (.aload_n 0, 1) := by decide +kernel
theorem dX3_has_6 : decode cX3_has 6 = .ok (.getfield 18, 3) := by decide +kernel
theorem dX3_has_9 : decode cX3_has 9 = .ok (.if_icmp .ge 19, 3) := by decide +kernel
theorem dX3_has_12 : decode cX3_has 12 = .ok (.iload_n 2, 1) := by decide +kernel
theorem dX3_has_13 : decode cX3_has 13 = .ok (.ifCond .lt 15, 3) := by decide +kernel
theorem dX3_has_16 : decode cX3_has 16 = .ok (.iload_n 2, 1) := by decide +kernel
theorem dX3_has_17 : decode cX3_has 17 = .ok (.aload_n 0, 1) := by decide +kernel
theorem dX3_has_18 : decode cX3_has 18 = .ok (.getfield 22, 3) := by decide +kernel
theorem dX3_has_21 : decode cX3_has 21 = .ok (.if_icmp .ge 7, 3) := by decide +kernel
theorem dX3_has_24 : decode cX3_has 24 = .ok (.iconst 1, 1) := by decide +kernel
theorem dX3_has_25 : decode cX3_has 25 = .ok (.goto 4, 3) := by decide +kernel
theorem dX3_has_28 : decode cX3_has 28 = .ok (.iconst 0, 1) := by decide +kernel
theorem dX3_has_29 : decode cX3_has 29 = .ok (.ireturn, 1) := by decide +kernel
def fX3_has (zr : Int32) (zc : Int32) (i1 : Int32) (i2 : Int32) : Option (Int32) := (if i1 < 0 then some 0 else (if zr ≤ i1 then some 0 else (if i2 < 0 then some 0 else (if zc ≤ i2 then some 0 else some 1))))
abbrev hX3_has : Cond := .code yX3_has cX3_has 3 (some .boolean)
theorem mX3_has : yM yX3_has hX3_has 2 := ⟨u_839, u_61, by decide +kernel, by decide +kernel, by decide +kernel⟩
set_option maxHeartbeats 4000000 in
set_option maxRecDepth 100000 in
theorem kX3_has (l : Launch) (D : va_G) (cy : Nat → ClassId) (z : Nat) (zv : Nat) (zr : Int32) (zc : Int32) (zs : Int32) (i1 : Int32) (i2 : Int32) {res : Int32} (hR : fX3_has zr zc i1 i2 = some res) : YM l D cy yX3_has hX3_has 1 0 0 [.ref z, .int i1, .int i2] [[(z, .inr (5, [.ref zv, .int zr, .int zc, .int zs]))]] (fun v u => v = some (.int res) ∧ u = [[(z, .inr (5, [.ref zv, .int zr, .int zc, .int zs]))]]) := by
  unfold fX3_has at hR
  refine YM.ofZ (cc := cX3_has) (maxL := 3) (ret := (some .boolean)) (by decide +kernel) rfl (Nat.le_of_ble_eq_true rfl) [(0, .ref z), (1, .int i1), (2, .int i2)] rfl .boolean rfl (fun p e s m args below meth c A H0 Q C hnm ret => ?_)
  refine xr_iload_n (n := 1) (j := 1) C dX3_has_0 rfl rfl ?_
  refine xr_if_lt (tgt := 28) (n := 4) C dX3_has_1 rfl rfl (fun c_1 => ?_) (fun c_1 => ?_)
  · replace hR := yf_t c_1 hR
    refine xr_iconst (n := 29) (v := 0) C dX3_has_28 rfl rfl ?_
    obtain rfl := Option.some.inj hR
    exact ret 0 (by decide) ⟨rfl, rfl⟩ (Nat.le_of_ble_eq_true rfl) (Nat.le_of_ble_eq_true rfl) dX3_has_29
  · replace hR := yf_f c_1 hR
    refine xr_iload_n (n := 5) (j := 1) C dX3_has_4 rfl rfl ?_
    refine xr_aload_n (n := 6) (j := 0) C dX3_has_5 rfl rfl ?_
    refine xr_get (n := 9) C 0 rfl rfl 1 (by decide) in_X3 u_176 rfl (v := .int zr) rfl dX3_has_6 rfl ?_
    refine xr_icmp_ge (tgt := 28) (n := 12) C dX3_has_9 rfl rfl (fun c_2 => ?_) (fun c_2 => ?_)
    · replace hR := yf_t c_2 hR
      refine xr_iconst (n := 29) (v := 0) C dX3_has_28 rfl rfl ?_
      obtain rfl := Option.some.inj hR
      exact ret 0 (by decide) ⟨rfl, rfl⟩ (Nat.le_of_ble_eq_true rfl) (Nat.le_of_ble_eq_true rfl) dX3_has_29
    · replace hR := yf_f c_2 hR
      refine xr_iload_n (n := 13) (j := 2) C dX3_has_12 rfl rfl ?_
      refine xr_if_lt (tgt := 28) (n := 16) C dX3_has_13 rfl rfl (fun c_3 => ?_) (fun c_3 => ?_)
      · replace hR := yf_t c_3 hR
        refine xr_iconst (n := 29) (v := 0) C dX3_has_28 rfl rfl ?_
        obtain rfl := Option.some.inj hR
        exact ret 0 (by decide) ⟨rfl, rfl⟩ (Nat.le_of_ble_eq_true rfl) (Nat.le_of_ble_eq_true rfl) dX3_has_29
      · replace hR := yf_f c_3 hR
        refine xr_iload_n (n := 17) (j := 2) C dX3_has_16 rfl rfl ?_
        refine xr_aload_n (n := 18) (j := 0) C dX3_has_17 rfl rfl ?_
        refine xr_get (n := 21) C 0 rfl rfl 2 (by decide) in_X3 u_178 rfl (v := .int zc) rfl dX3_has_18 rfl ?_
        refine xr_icmp_ge (tgt := 28) (n := 24) C dX3_has_21 rfl rfl (fun c_4 => ?_) (fun c_4 => ?_)
        · replace hR := yf_t c_4 hR
          refine xr_iconst (n := 29) (v := 0) C dX3_has_28 rfl rfl ?_
          obtain rfl := Option.some.inj hR
          exact ret 0 (by decide) ⟨rfl, rfl⟩ (Nat.le_of_ble_eq_true rfl) (Nat.le_of_ble_eq_true rfl) dX3_has_29
        · replace hR := yf_f c_4 hR
          refine xr_iconst (n := 25) (v := 1) C dX3_has_24 rfl rfl ?_
          refine xr_goto (tgt := 29) C dX3_has_25 rfl ?_
          obtain rfl := Option.some.inj hR
          exact ret 1 (by decide) ⟨rfl, rfl⟩ (Nat.le_of_ble_eq_true rfl) (Nat.le_of_ble_eq_true rfl) dX3_has_29
theorem dX3_rowError_0 : decode cX3_rowError 0 = .ok (.aload_n 0, 1) := by decide +kernel
theorem dX3_rowError_1 : decode cX3_rowError 1 = .ok (.getfield 12, 3) := by decide +kernel
theorem dX3_rowError_4 : decode cX3_rowError 4 = .ok (.iload_n 1, 1) := by decide +kernel
theorem dX3_rowError_5 : decode cX3_rowError 5 = .ok (.aload_n 0, 1) := by decide +kernel
theorem dX3_rowError_6 : decode cX3_rowError 6 = .ok (.getfield 22, 3) := by decide +kernel
theorem dX3_rowError_9 : decode cX3_rowError 9 = .ok (.iconst 1, 1) := by decide +kernel
theorem dX3_rowError_10 : decode cX3_rowError 10 = .ok (.isub, 1) := by decide +kernel
theorem dX3_rowError_11 : decode cX3_rowError 11 = .ok (.invokevirtual 52, 3) := by decide +kernel
theorem dX3_rowError_14 : decode cX3_rowError 14 = .ok (.ineg, 1) := by decide +kernel
theorem dX3_rowError_15 : decode cX3_rowError 15 = .ok (.istore_n 2, 1) := by decide +kernel
theorem dX3_rowError_16 : decode cX3_rowError 16 = .ok (.iconst 0, 1) := by decide +kernel
theorem dX3_rowError_17 : decode cX3_rowError 17 = .ok (.istore_n 3, 1) := by decide +kernel
theorem dX3_rowError_18 : decode cX3_rowError 18 = .ok (.iload_n 3, 1) := by decide +kernel
theorem dX3_rowError_19 : decode cX3_rowError 19 = .ok (.aload_n 0, 1) := by decide +kernel
theorem dX3_rowError_20 : decode cX3_rowError 20 = .ok (.getfield 22, 3) := by decide +kernel
theorem dX3_rowError_23 : decode cX3_rowError 23 = .ok (.iconst 1, 1) := by decide +kernel
theorem dX3_rowError_24 : decode cX3_rowError 24 = .ok (.isub, 1) := by decide +kernel
theorem dX3_rowError_25 : decode cX3_rowError 25 = .ok (.if_icmp .ge 21, 3) := by decide +kernel
theorem dX3_rowError_28 : decode cX3_rowError 28 = .ok (.iload_n 2, 1) := by decide +kernel
theorem dX3_rowError_29 : decode cX3_rowError 29 = .ok (.aload_n 0, 1) := by decide +kernel
theorem dX3_rowError_30 : decode cX3_rowError 30 = .ok (.getfield 12, 3) := by decide +kernel
theorem dX3_rowError_33 : decode cX3_rowError 33 = .ok (.iload_n 1, 1) := by decide +kernel
theorem dX3_rowError_34 : decode cX3_rowError 34 = .ok (.iload_n 3, 1) := by decide +kernel
theorem dX3_rowError_35 : decode cX3_rowError 35 = .ok (.invokevirtual 52, 3) := by decide +kernel
theorem dX3_rowError_38 : decode cX3_rowError 38 = .ok (.iadd, 1) := by decide +kernel
theorem dX3_rowError_39 : decode cX3_rowError 39 = .ok (.istore_n 2, 1) := by decide +kernel
theorem dX3_rowError_40 : decode cX3_rowError 40 = .ok (.iinc 3 1, 3) := by decide +kernel
theorem dX3_rowError_43 : decode cX3_rowError 43 = .ok (.goto (-25), 3) := by decide +kernel
theorem dX3_rowError_46 : decode cX3_rowError 46 = .ok (.iload_n 2, 1) := by decide +kernel
theorem dX3_rowError_47 : decode cX3_rowError 47 = .ok (.ireturn, 1) := by decide +kernel
def fX3_rowError (zc : Int32) (zvf : Nat → Int32) (i1 : Int32) : Option (Int32) := ((fX4_get zvf i1 (zc - 1)).bind fun x_1 => ((wl (S := Int32 × Int32) (B := Int32 × Int32) (fun s_5 => (if (zc - 1) ≤ s_5.2 then some (.inr (s_5.1, s_5.2)) else ((fX4_get zvf i1 s_5.2).bind fun x_8 => some (.inl (s_5.1 + x_8, s_5.2 + 1))))) yFuel (-x_1, 0)).bind fun b_5 => some b_5.1))
abbrev hX3_rowError : Cond := .code yX3_rowError cX3_rowError 4 (some .int)
theorem mX3_rowError : yM yX3_rowError hX3_rowError 1 := ⟨u_857, u_61, by decide +kernel, by decide +kernel, by decide +kernel⟩
set_option maxHeartbeats 4000000 in
set_option maxRecDepth 100000 in
theorem kX3_rowError (l : Launch) (D : va_G) (cy : Nat → ClassId) (z : Nat) (zv : Nat) (zr : Int32) (zc : Int32) (zs : Int32) (zvn : Nat) (zvf : Nat → Int32) (i1 : Int32) {res : Int32} (hR : fX3_rowError zc zvf i1 = some res) : YM l D cy yX3_rowError hX3_rowError 2 0 0 [.ref z, .int i1] [[(z, .inr (5, [.ref zv, .int zr, .int zc, .int zs]))], [(zv, .inr (6, [.ref zvn]))], [(zvn, .inl (cy 1, 81, .inl zvf))]] (fun v u => v = some (.int res) ∧ u = [[(z, .inr (5, [.ref zv, .int zr, .int zc, .int zs]))], [(zv, .inr (6, [.ref zvn]))], [(zvn, .inl (cy 1, 81, .inl zvf))]]) := by
  unfold fX3_rowError at hR
  refine YM.ofI (cc := cX3_rowError) (maxL := 4) (ret := (some .int)) (by decide +kernel) rfl (Nat.le_of_ble_eq_true rfl) [(0, .ref z), (1, .int i1)] rfl rfl (fun p e s m args below meth c A H0 Q C hnm ret => ?_)
  refine xr_aload_n (n := 1) (j := 0) C dX3_rowError_0 rfl rfl ?_
  refine xr_get (n := 4) C 0 rfl rfl 0 (by decide) in_X3 u_173 rfl (v := .ref zv) rfl dX3_rowError_1 rfl ?_
  refine xr_iload_n (n := 5) (j := 1) C dX3_rowError_4 rfl rfl ?_
  refine xr_aload_n (n := 6) (j := 0) C dX3_rowError_5 rfl rfl ?_
  refine xr_get (n := 9) C 0 rfl rfl 2 (by decide) in_X3 u_178 rfl (v := .int zc) rfl dX3_rowError_6 rfl ?_
  refine xr_iconst (n := 10) (v := 1) C dX3_rowError_9 rfl rfl ?_
  refine xr_isub (n := 11) C dX3_rowError_10 rfl ?_
  obtain ⟨x_1, hx_1, hR⟩ := yf_b hR
  refine xr_callVp (n := 14) (As := [.int i1, .int (zc - 1)]) (rest := []) C (kX4_get l D cy (h := zv) (hn := zvn) (hf := zvf) (row := i1) (col := zc - 1) hx_1) mX4_get u_858 u_341 u_342 1 rfl rfl 3 [1, 2] [0] rfl (by decide +kernel) rfl rfl rfl rfl (Nat.le_of_ble_eq_true rfl) (Nat.le_of_ble_eq_true rfl) (Nat.le_of_ble_eq_true rfl) (Nat.le_of_ble_eq_true rfl) (Nat.le_of_ble_eq_true rfl) dX3_rowError_11 rfl (fun _ _ hp => hp.2) (fun v_2 hp_4 => ?_)
  obtain ⟨rfl, -⟩ := hp_4
  refine xr_st (st' := [.int x_1]) rfl ?_
  refine xr_ineg (n := 15) C dX3_rowError_14 rfl ?_
  refine xr_istore_n (n := 16) C [(2, .int (-x_1)), (0, .ref z), (1, .int i1)] dX3_rowError_15 (by decide) rfl rfl ?_
  refine xr_iconst (n := 17) (v := 0) C dX3_rowError_16 rfl rfl ?_
  refine xr_istore_n (n := 18) C [(3, .int 0), (2, .int (-x_1)), (0, .ref z), (1, .int i1)] dX3_rowError_17 (by decide) rfl rfl ?_
  refine xr_lv (lv' := [(0, .ref z), (1, .int i1), (2, .int (-x_1)), (3, .int 0)]) [2, 3, 1, 0] rfl ?_
  obtain ⟨b_5, hb_5, hR⟩ := yf_b hR
  have K_5 : X p l e (yR 2 0 0) s m args below meth c D A H0 4 Q [[(z, .inr (5, [.ref zv, .int zr, .int zc, .int zs]))], [(zv, .inr (6, [.ref zvn]))], [(zvn, .inl (cy 1, 81, .inl zvf))]] 0 0 [(2, .int b_5.1)] 46 [] := by
    refine xr_iload_n (n := 47) (j := 0) C dX3_rowError_46 rfl rfl ?_
    obtain rfl := Option.some.inj hR
    exact ret b_5.1 ⟨rfl, rfl⟩ (Nat.le_of_ble_eq_true rfl) (Nat.le_of_ble_eq_true rfl) dX3_rowError_47
  refine y_loop (P := fun (s_5 : Int32 × Int32) => X p l e (yR 2 0 0) s m args below meth c D A H0 4 Q [[(z, .inr (5, [.ref zv, .int zr, .int zc, .int zs]))], [(zv, .inr (6, [.ref zvn]))], [(zvn, .inl (cy 1, 81, .inl zvf))]] 0 0 [(0, .ref z), (1, .int i1), (2, .int s_5.1), (3, .int s_5.2)] 18 []) ?_ _ (-x_1, 0) hb_5
  intro s_5 o_5 ho_5 hk_5 hx_5
  refine xr_iload_n (n := 19) (j := 3) C dX3_rowError_18 rfl rfl ?_
  refine xr_aload_n (n := 20) (j := 0) C dX3_rowError_19 rfl rfl ?_
  refine xr_get (n := 23) C 0 rfl rfl 2 (by decide) in_X3 u_178 rfl (v := .int zc) rfl dX3_rowError_20 rfl ?_
  refine xr_iconst (n := 24) (v := 1) C dX3_rowError_23 rfl rfl ?_
  refine xr_isub (n := 25) C dX3_rowError_24 rfl ?_
  refine xr_icmp_ge (tgt := 46) (n := 28) C dX3_rowError_25 rfl rfl (fun c_6 => ?_) (fun c_6 => ?_)
  · replace ho_5 := yf_t c_6 ho_5
    refine xr_lv (lv' := [(2, .int s_5.1)]) [2] rfl ?_
    have e_7 := hx_5 _ (Option.some.inj ho_5).symm
    subst e_7
    exact K_5
  · replace ho_5 := yf_f c_6 ho_5
    refine xr_iload_n (n := 29) (j := 2) C dX3_rowError_28 rfl rfl ?_
    refine xr_aload_n (n := 30) (j := 0) C dX3_rowError_29 rfl rfl ?_
    refine xr_get (n := 33) C 0 rfl rfl 0 (by decide) in_X3 u_173 rfl (v := .ref zv) rfl dX3_rowError_30 rfl ?_
    refine xr_iload_n (n := 34) (j := 1) C dX3_rowError_33 rfl rfl ?_
    refine xr_iload_n (n := 35) (j := 3) C dX3_rowError_34 rfl rfl ?_
    obtain ⟨x_8, hx_8, ho_5⟩ := yf_b ho_5
    refine xr_callVp (n := 38) (As := [.int i1, .int s_5.2]) (rest := [.int s_5.1]) C (kX4_get l D cy (h := zv) (hn := zvn) (hf := zvf) (row := i1) (col := s_5.2) hx_8) mX4_get u_858 u_341 u_342 1 rfl rfl 3 [1, 2] [0] rfl (by decide +kernel) rfl rfl rfl rfl (Nat.le_of_ble_eq_true rfl) (Nat.le_of_ble_eq_true rfl) (Nat.le_of_ble_eq_true rfl) (Nat.le_of_ble_eq_true rfl) (Nat.le_of_ble_eq_true rfl) dX3_rowError_35 rfl (fun _ _ hp => hp.2) (fun v_9 hp_11 => ?_)
    obtain ⟨rfl, -⟩ := hp_11
    refine xr_st (st' := [.int x_8, .int s_5.1]) rfl ?_
    refine xr_iadd (n := 39) C dX3_rowError_38 rfl ?_
    refine xr_istore_n (n := 40) C [(2, .int (s_5.1 + x_8)), (0, .ref z), (1, .int i1), (3, .int s_5.2)] dX3_rowError_39 (by decide) rfl rfl ?_
    refine xr_iinc (j := 3) (v := s_5.2 + 1) (n := 43) C [(3, .int (s_5.2 + 1)), (2, .int (s_5.1 + x_8)), (0, .ref z), (1, .int i1)] dX3_rowError_40 rfl rfl (by decide) rfl rfl ?_
    refine xr_goto (tgt := 18) C dX3_rowError_43 rfl ?_
    refine xr_lv (lv' := [(0, .ref z), (1, .int i1), (2, .int (s_5.1 + x_8)), (3, .int (s_5.2 + 1))]) [2, 3, 1, 0] rfl ?_
    exact hk_5 (s_5.1 + x_8, s_5.2 + 1) (Option.some.inj ho_5).symm
