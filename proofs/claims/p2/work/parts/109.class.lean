theorem u_381 : Cond.code yX2_isEmpty cX2_isEmpty 1 (some .boolean) ∈ yU := yu 381 (by decide +kernel) (by decide +kernel)
theorem u_385 : Cond.code yX2_isBetterThan cX2_isBetterThan 2 (some .boolean) ∈ yU := yu 385 (by decide +kernel) (by decide +kernel)
theorem dX2_isEmpty_0 : decode cX2_isEmpty 0 = .ok (.aload_n 0, 1) := by decide +kernel
theorem dX2_isEmpty_1 : decode cX2_isEmpty 1 = .ok (.getfield 19, 3) := by decide +kernel
theorem dX2_isEmpty_4 : decode cX2_isEmpty 4 = .ok (.ifCond .eq 10, 3) := by decide +kernel
theorem dX2_isEmpty_7 : decode cX2_isEmpty 7 = .ok (.aload_n 0, 1) := by decide +kernel
theorem dX2_isEmpty_8 : decode cX2_isEmpty 8 = .ok (.getfield 22, 3) := by decide +kernel
theorem dX2_isEmpty_11 : decode cX2_isEmpty 11 = .ok (.ifCond .ne 7, 3) := by decide +kernel
theorem dX2_isEmpty_14 : decode cX2_isEmpty 14 = .ok (.iconst 1, 1) := by decide +kernel
theorem dX2_isEmpty_15 : decode cX2_isEmpty 15 = .ok (.goto 4, 3) := by decide +kernel
theorem dX2_isEmpty_18 : decode cX2_isEmpty 18 = .ok (.iconst 0, 1) := by decide +kernel
theorem dX2_isEmpty_19 : decode cX2_isEmpty 19 = .ok (.ireturn, 1) := by decide +kernel
def fX2_isEmpty (y3 : Int32) (y4 : Int32) : Option (Int32) := (if y3 = 0 then some 1 else (if y4 = 0 then some 1 else some 0))
abbrev hX2_isEmpty : Cond := .code yX2_isEmpty cX2_isEmpty 1 (some .boolean)
theorem mX2_isEmpty : yM yX2_isEmpty hX2_isEmpty 0 := ⟨u_381, u_63, by decide +kernel, by decide +kernel, by decide +kernel⟩
set_option maxHeartbeats 4000000 in
set_option maxRecDepth 100000 in
theorem kX2_isEmpty (l : Launch) (D : va_G) (cy : Nat → ClassId) (y : Nat) (y0 : Int32) (y1 : Int32) (y2 : Int32) (y3 : Int32) (y4 : Int32) (y5 : Int32) (y6 : Int32) (y7 : Int32) (y8 : Int32) (y9 : Int32) {res : Int32} (hR : fX2_isEmpty y3 y4 = some res) : YM l D cy yX2_isEmpty hX2_isEmpty 1 0 0 [.ref y] [[(y, .inr (4, [.int y0, .int y1, .int y2, .int y3, .int y4, .int y5, .int y6, .int y7, .int y8, .int y9]))]] (fun v u => v = some (.int res) ∧ u = [[(y, .inr (4, [.int y0, .int y1, .int y2, .int y3, .int y4, .int y5, .int y6, .int y7, .int y8, .int y9]))]]) := by
  unfold fX2_isEmpty at hR
  refine YM.ofZ (cc := cX2_isEmpty) (maxL := 1) (ret := (some .boolean)) (by decide +kernel) rfl (Nat.le_of_ble_eq_true rfl) [(0, .ref y)] rfl .boolean rfl (fun p e s m args below meth c A H0 Q C hnm ret => ?_)
  refine xr_aload_n (n := 1) (j := 0) C dX2_isEmpty_0 rfl rfl ?_
  refine xr_get (n := 4) C 0 rfl rfl 3 (by decide) in_X2 u_212 rfl (v := .int y3) rfl dX2_isEmpty_1 rfl ?_
  refine xr_if_eq (tgt := 14) (n := 7) C dX2_isEmpty_4 rfl rfl (fun c_1 => ?_) (fun c_1 => ?_)
  · replace hR := yf_t c_1 hR
    refine xr_iconst (n := 15) (v := 1) C dX2_isEmpty_14 rfl rfl ?_
    refine xr_goto (tgt := 19) C dX2_isEmpty_15 rfl ?_
    obtain rfl := Option.some.inj hR
    exact ret 1 (by decide) ⟨rfl, rfl⟩ (Nat.le_of_ble_eq_true rfl) (Nat.le_of_ble_eq_true rfl) dX2_isEmpty_19
  · replace hR := yf_f c_1 hR
    refine xr_aload_n (n := 8) (j := 0) C dX2_isEmpty_7 rfl rfl ?_
    refine xr_get (n := 11) C 0 rfl rfl 4 (by decide) in_X2 u_215 rfl (v := .int y4) rfl dX2_isEmpty_8 rfl ?_
    refine xr_if_ne (tgt := 18) (n := 14) C dX2_isEmpty_11 rfl rfl (fun c_2 => ?_) (fun c_2 => ?_)
    · replace hR := yf_f c_2 hR
      refine xr_iconst (n := 19) (v := 0) C dX2_isEmpty_18 rfl rfl ?_
      obtain rfl := Option.some.inj hR
      exact ret 0 (by decide) ⟨rfl, rfl⟩ (Nat.le_of_ble_eq_true rfl) (Nat.le_of_ble_eq_true rfl) dX2_isEmpty_19
    · replace hR := yf_t c_2 hR
      refine xr_iconst (n := 15) (v := 1) C dX2_isEmpty_14 rfl rfl ?_
      refine xr_goto (tgt := 19) C dX2_isEmpty_15 rfl ?_
      obtain rfl := Option.some.inj hR
      exact ret 1 (by decide) ⟨rfl, rfl⟩ (Nat.le_of_ble_eq_true rfl) (Nat.le_of_ble_eq_true rfl) dX2_isEmpty_19
theorem dX2_isBetterThan_0 : decode cX2_isBetterThan 0 = .ok (.aload_n 0, 1) := by decide +kernel
theorem dX2_isBetterThan_1 : decode cX2_isBetterThan 1 = .ok (.getfield 37, 3) := by decide +kernel
theorem dX2_isBetterThan_4 : decode cX2_isBetterThan 4 = .ok (.aload_n 1, 1) := by decide +kernel
theorem dX2_isBetterThan_5 : decode cX2_isBetterThan 5 = .ok (.getfield 37, 3) := by decide +kernel
theorem dX2_isBetterThan_8 : decode cX2_isBetterThan 8 = .ok (.if_icmp .eq 20, 3) := by decide +kernel
theorem dX2_isBetterThan_11 : decode cX2_isBetterThan 11 = .ok (.aload_n 0, 1) := by decide +kernel
theorem dX2_isBetterThan_12 : decode cX2_isBetterThan 12 = .ok (.getfield 37, 3) := by decide +kernel
theorem dX2_isBetterThan_15 : decode cX2_isBetterThan 15 = .ok (.aload_n 1, 1) := by decide +kernel
theorem dX2_isBetterThan_16 : decode cX2_isBetterThan 16 = .ok (.getfield 37, 3) := by decide +kernel
theorem dX2_isBetterThan_19 : decode cX2_isBetterThan 19 = .ok (.if_icmp .ge 7, 3) := by decide +kernel
theorem dX2_isBetterThan_22 : decode cX2_isBetterThan 22 = .ok (.iconst 1, 1) := by decide +kernel
theorem dX2_isBetterThan_23 : decode cX2_isBetterThan 23 = .ok (.goto 4, 3) := by decide +kernel
theorem dX2_isBetterThan_26 : decode cX2_isBetterThan 26 = .ok (.iconst 0, 1) := by decide +kernel
theorem dX2_isBetterThan_27 : decode cX2_isBetterThan 27 = .ok (.ireturn, 1) := by decide +kernel
theorem dX2_isBetterThan_28 : decode cX2_isBetterThan 28 = .ok (.aload_n 0, 1) := by decide +kernel
theorem dX2_isBetterThan_29 : decode cX2_isBetterThan 29 = .ok (.getfield 25, 3) := by decide +kernel
theorem dX2_isBetterThan_32 : decode cX2_isBetterThan 32 = .ok (.aload_n 0, 1) := by decide +kernel
theorem dX2_isBetterThan_33 : decode cX2_isBetterThan 33 = .ok (.getfield 28, 3) := by decide +kernel
theorem dX2_isBetterThan_36 : decode cX2_isBetterThan 36 = .ok (.imul, 1) := by decide +kernel
theorem dX2_isBetterThan_37 : decode cX2_isBetterThan 37 = .ok (.aload_n 1, 1) := by decide +kernel
theorem dX2_isBetterThan_38 : decode cX2_isBetterThan 38 = .ok (.getfield 25, 3) := by decide +kernel
theorem dX2_isBetterThan_41 : decode cX2_isBetterThan 41 = .ok (.aload_n 1, 1) := by decide +kernel
theorem dX2_isBetterThan_42 : decode cX2_isBetterThan 42 = .ok (.getfield 28, 3) := by decide +kernel
theorem dX2_isBetterThan_45 : decode cX2_isBetterThan 45 = .ok (.imul, 1) := by decide +kernel
theorem dX2_isBetterThan_46 : decode cX2_isBetterThan 46 = .ok (.if_icmp .ge 7, 3) := by decide +kernel
theorem dX2_isBetterThan_49 : decode cX2_isBetterThan 49 = .ok (.iconst 1, 1) := by decide +kernel
theorem dX2_isBetterThan_50 : decode cX2_isBetterThan 50 = .ok (.goto 4, 3) := by decide +kernel
theorem dX2_isBetterThan_53 : decode cX2_isBetterThan 53 = .ok (.iconst 0, 1) := by decide +kernel
theorem dX2_isBetterThan_54 : decode cX2_isBetterThan 54 = .ok (.ireturn, 1) := by decide +kernel
def fX2_isBetterThan (y5 : Int32) (y6 : Int32) (y9 : Int32) (t5 : Int32) (t6 : Int32) (t9 : Int32) : Option (Int32) := (if y9 = t9 then (if (t5 * t6) ≤ (y5 * y6) then some 0 else some 1) else (if t9 ≤ y9 then some 0 else some 1))
abbrev hX2_isBetterThan : Cond := .code yX2_isBetterThan cX2_isBetterThan 2 (some .boolean)
theorem mX2_isBetterThan : yM yX2_isBetterThan hX2_isBetterThan 1 := ⟨u_385, u_63, by decide +kernel, by decide +kernel, by decide +kernel⟩
set_option maxHeartbeats 4000000 in
set_option maxRecDepth 100000 in
theorem kX2_isBetterThan (l : Launch) (D : va_G) (cy : Nat → ClassId) (y : Nat) (y0 : Int32) (y1 : Int32) (y2 : Int32) (y3 : Int32) (y4 : Int32) (y5 : Int32) (y6 : Int32) (y7 : Int32) (y8 : Int32) (y9 : Int32) (t : Nat) (t0 : Int32) (t1 : Int32) (t2 : Int32) (t3 : Int32) (t4 : Int32) (t5 : Int32) (t6 : Int32) (t7 : Int32) (t8 : Int32) (t9 : Int32) {res : Int32} (hR : fX2_isBetterThan y5 y6 y9 t5 t6 t9 = some res) : YM l D cy yX2_isBetterThan hX2_isBetterThan 1 0 0 [.ref y, .ref t] [[(y, .inr (4, [.int y0, .int y1, .int y2, .int y3, .int y4, .int y5, .int y6, .int y7, .int y8, .int y9]))], [(t, .inr (4, [.int t0, .int t1, .int t2, .int t3, .int t4, .int t5, .int t6, .int t7, .int t8, .int t9]))]] (fun v u => v = some (.int res) ∧ u = [[(y, .inr (4, [.int y0, .int y1, .int y2, .int y3, .int y4, .int y5, .int y6, .int y7, .int y8, .int y9]))], [(t, .inr (4, [.int t0, .int t1, .int t2, .int t3, .int t4, .int t5, .int t6, .int t7, .int t8, .int t9]))]]) := by
  unfold fX2_isBetterThan at hR
  refine YM.ofZ (cc := cX2_isBetterThan) (maxL := 2) (ret := (some .boolean)) (by decide +kernel) rfl (Nat.le_of_ble_eq_true rfl) [(0, .ref y), (1, .ref t)] rfl .boolean rfl (fun p e s m args below meth c A H0 Q C hnm ret => ?_)
  refine xr_aload_n (n := 1) (j := 0) C dX2_isBetterThan_0 rfl rfl ?_
  refine xr_get (n := 4) C 0 rfl rfl 9 (by decide) in_X2 u_224 rfl (v := .int y9) rfl dX2_isBetterThan_1 rfl ?_
  refine xr_aload_n (n := 5) (j := 1) C dX2_isBetterThan_4 rfl rfl ?_
  refine xr_get (n := 8) C 1 rfl rfl 9 (by decide) in_X2 u_224 rfl (v := .int t9) rfl dX2_isBetterThan_5 rfl ?_
  refine xr_icmp_eq (tgt := 28) (n := 11) C dX2_isBetterThan_8 rfl rfl (fun c_1 => ?_) (fun c_1 => ?_)
  · replace hR := yf_t c_1 hR
    refine xr_aload_n (n := 29) (j := 0) C dX2_isBetterThan_28 rfl rfl ?_
    refine xr_get (n := 32) C 0 rfl rfl 5 (by decide) in_X2 u_218 rfl (v := .int y5) rfl dX2_isBetterThan_29 rfl ?_
    refine xr_aload_n (n := 33) (j := 0) C dX2_isBetterThan_32 rfl rfl ?_
    refine xr_get (n := 36) C 0 rfl rfl 6 (by decide) in_X2 u_220 rfl (v := .int y6) rfl dX2_isBetterThan_33 rfl ?_
    refine xr_imul (n := 37) C dX2_isBetterThan_36 rfl ?_
    refine xr_aload_n (n := 38) (j := 1) C dX2_isBetterThan_37 rfl rfl ?_
    refine xr_get (n := 41) C 1 rfl rfl 5 (by decide) in_X2 u_218 rfl (v := .int t5) rfl dX2_isBetterThan_38 rfl ?_
    refine xr_aload_n (n := 42) (j := 1) C dX2_isBetterThan_41 rfl rfl ?_
    refine xr_get (n := 45) C 1 rfl rfl 6 (by decide) in_X2 u_220 rfl (v := .int t6) rfl dX2_isBetterThan_42 rfl ?_
    refine xr_imul (n := 46) C dX2_isBetterThan_45 rfl ?_
    refine xr_icmp_ge (tgt := 53) (n := 49) C dX2_isBetterThan_46 rfl rfl (fun c_2 => ?_) (fun c_2 => ?_)
    · replace hR := yf_t c_2 hR
      refine xr_iconst (n := 54) (v := 0) C dX2_isBetterThan_53 rfl rfl ?_
      obtain rfl := Option.some.inj hR
      exact ret 0 (by decide) ⟨rfl, rfl⟩ (Nat.le_of_ble_eq_true rfl) (Nat.le_of_ble_eq_true rfl) dX2_isBetterThan_54
    · replace hR := yf_f c_2 hR
      refine xr_iconst (n := 50) (v := 1) C dX2_isBetterThan_49 rfl rfl ?_
      refine xr_goto (tgt := 54) C dX2_isBetterThan_50 rfl ?_
      obtain rfl := Option.some.inj hR
      exact ret 1 (by decide) ⟨rfl, rfl⟩ (Nat.le_of_ble_eq_true rfl) (Nat.le_of_ble_eq_true rfl) dX2_isBetterThan_54
  · replace hR := yf_f c_1 hR
    refine xr_aload_n (n := 12) (j := 0) C dX2_isBetterThan_11 rfl rfl ?_
    refine xr_get (n := 15) C 0 rfl rfl 9 (by decide) in_X2 u_224 rfl (v := .int y9) rfl dX2_isBetterThan_12 rfl ?_
    refine xr_aload_n (n := 16) (j := 1) C dX2_isBetterThan_15 rfl rfl ?_
    refine xr_get (n := 19) C 1 rfl rfl 9 (by decide) in_X2 u_224 rfl (v := .int t9) rfl dX2_isBetterThan_16 rfl ?_
    refine xr_icmp_ge (tgt := 26) (n := 22) C dX2_isBetterThan_19 rfl rfl (fun c_3 => ?_) (fun c_3 => ?_)
    · replace hR := yf_t c_3 hR
      refine xr_iconst (n := 27) (v := 0) C dX2_isBetterThan_26 rfl rfl ?_
      obtain rfl := Option.some.inj hR
      exact ret 0 (by decide) ⟨rfl, rfl⟩ (Nat.le_of_ble_eq_true rfl) (Nat.le_of_ble_eq_true rfl) dX2_isBetterThan_27
    · replace hR := yf_f c_3 hR
      refine xr_iconst (n := 23) (v := 1) C dX2_isBetterThan_22 rfl rfl ?_
      refine xr_goto (tgt := 27) C dX2_isBetterThan_23 rfl ?_
      obtain rfl := Option.some.inj hR
      exact ret 1 (by decide) ⟨rfl, rfl⟩ (Nat.le_of_ble_eq_true rfl) (Nat.le_of_ble_eq_true rfl) dX2_isBetterThan_27
