theorem u_381 : Cond.code yX2_isEmpty cX2_isEmpty 1 (some .boolean) ∈ yU := yu_tables_1_2 85 (by decide +kernel) (by decide +kernel)
theorem u_385 : Cond.code yX2_isBetterThan cX2_isBetterThan 2 (some .boolean) ∈ yU := yu_tables_1_2 89 (by decide +kernel) (by decide +kernel)
theorem u_176 : Cond.fieldLink RX3 18 "Pulsemesh$Results" "rows" "I" ∈ yU := yu_tables_1_1 120 (by decide +kernel) (by decide +kernel)
theorem u_178 : Cond.fieldLink RX3 22 "Pulsemesh$Results" "columns" "I" ∈ yU := yu_tables_1_1 122 (by decide +kernel) (by decide +kernel)
theorem u_180 : Cond.fieldLink RX3 25 "Pulsemesh$Results" "haveSums" "Z" ∈ yU := yu_tables_1_1 124 (by decide +kernel) (by decide +kernel)
theorem u_786 : Cond.code yX3_clear cX3_clear 1 none ∈ yU := yu_tables_1_4 10 (by decide +kernel) (by decide +kernel)
theorem u_61 : Cond.initialized RX3 ∈ yU := yu_tables_1_1 5 (by decide +kernel) (by decide +kernel)
theorem u_827 : Cond.methodLink RX3 29 yX1_rowsInAll ∈ yU := yu_tables_1_4 51 (by decide +kernel) (by decide +kernel)
theorem u_828 : Cond.methodLink RX3 35 yX1_columnsInAll ∈ yU := yu_tables_1_4 52 (by decide +kernel) (by decide +kernel)
theorem u_826 : Cond.code yX3_open cX3_open 2 none ∈ yU := yu_tables_1_4 50 (by decide +kernel) (by decide +kernel)
theorem u_839 : Cond.code yX3_has cX3_has 3 (some .boolean) ∈ yU := yu_tables_1_4 63 (by decide +kernel) (by decide +kernel)
theorem u_173 : Cond.fieldLink RX3 12 "Pulsemesh$Results" "values" "LPulsemesh$Table;" ∈ yU := yu_tables_1_1 117 (by decide +kernel) (by decide +kernel)
theorem u_858 : Cond.methodLink RX3 52 yX4_get ∈ yU := yu_tables_1_4 82 (by decide +kernel) (by decide +kernel)
theorem u_857 : Cond.code yX3_rowError cX3_rowError 4 (some .int) ∈ yU := yu_tables_1_4 81 (by decide +kernel) (by decide +kernel)
theorem dd_X2_isEmpty_0 : dk_R cX2_isEmpty [(0, .aload_n 0, 1), (1, .getfield 19, 3), (4, .ifCond .eq 10, 3), (7, .aload_n 0, 1), (8, .getfield 22, 3), (11, .ifCond .ne 7, 3), (14, .iconst 1, 1), (15, .goto 4, 3), (18, .iconst 0, 1), (19, .ireturn, 1)] := dk_use _ _ (by decide +kernel)
def fX2_isEmpty (y3 : Int32) (y4 : Int32) : Option (Int32) := (if y3 = 0 then some 1 else (if y4 = 0 then some 1 else some 0))
abbrev hX2_isEmpty : Cond := .code yX2_isEmpty cX2_isEmpty 1 (some .boolean)
theorem mX2_isEmpty : yM yX2_isEmpty hX2_isEmpty 0 := ⟨u_381, u_63, by decide +kernel, by decide +kernel, by decide +kernel⟩
set_option maxHeartbeats 4000000 in
set_option maxRecDepth 100000 in
theorem kX2_isEmpty (l : Launch) (D : va_G) (cy : Nat → ClassId) (y : Nat) (y0 : Int32) (y1 : Int32) (y2 : Int32) (y3 : Int32) (y4 : Int32) (y5 : Int32) (y6 : Int32) (y7 : Int32) (y8 : Int32) (y9 : Int32) {res : Int32} (hR : fX2_isEmpty y3 y4 = some res) : YM l D cy yX2_isEmpty hX2_isEmpty 1 0 0 [.ref y] [[(y, .inr (4, [.int y0, .int y1, .int y2, .int y3, .int y4, .int y5, .int y6, .int y7, .int y8, .int y9]))]] (fun v u => v = some (.int res) ∧ u = [[(y, .inr (4, [.int y0, .int y1, .int y2, .int y3, .int y4, .int y5, .int y6, .int y7, .int y8, .int y9]))]]) := by
  unfold fX2_isEmpty at hR
  refine YM.ofZ (cc := cX2_isEmpty) (maxL := 1) (ret := (some .boolean)) (by decide +kernel) rfl (Nat.le_of_ble_eq_true rfl) [(0, .ref y)] rfl .boolean rfl (fun p e s m args below meth c A H0 Q C hnm ret => ?_)
  refine xr_aload_n (n := 1) (j := 0) C dd_X2_isEmpty_0.1 rfl rfl ?_
  refine xr_get (n := 4) C 0 rfl rfl 3 (by decide) in_X2 u_212 rfl (v := .int y3) rfl dd_X2_isEmpty_0.2.1 rfl ?_
  refine xr_if_eq (tgt := 14) (n := 7) C dd_X2_isEmpty_0.2.2.1 rfl rfl (fun c_1 => ?_) (fun c_1 => ?_)
  · replace hR := yf_t c_1 hR
    refine xr_iconst (n := 15) (v := 1) C dd_X2_isEmpty_0.2.2.2.2.2.2.1 rfl rfl ?_
    refine xr_goto (tgt := 19) C dd_X2_isEmpty_0.2.2.2.2.2.2.2.1 rfl ?_
    obtain rfl := Option.some.inj hR
    exact ret 1 (by decide) ⟨rfl, rfl⟩ (Nat.le_of_ble_eq_true rfl) (Nat.le_of_ble_eq_true rfl) dd_X2_isEmpty_0.2.2.2.2.2.2.2.2.2.1
  · replace hR := yf_f c_1 hR
    refine xr_aload_n (n := 8) (j := 0) C dd_X2_isEmpty_0.2.2.2.1 rfl rfl ?_
    refine xr_get (n := 11) C 0 rfl rfl 4 (by decide) in_X2 u_215 rfl (v := .int y4) rfl dd_X2_isEmpty_0.2.2.2.2.1 rfl ?_
    refine xr_if_ne (tgt := 18) (n := 14) C dd_X2_isEmpty_0.2.2.2.2.2.1 rfl rfl (fun c_2 => ?_) (fun c_2 => ?_)
    · replace hR := yf_f c_2 hR
      refine xr_iconst (n := 19) (v := 0) C dd_X2_isEmpty_0.2.2.2.2.2.2.2.2.1 rfl rfl ?_
      obtain rfl := Option.some.inj hR
      exact ret 0 (by decide) ⟨rfl, rfl⟩ (Nat.le_of_ble_eq_true rfl) (Nat.le_of_ble_eq_true rfl) dd_X2_isEmpty_0.2.2.2.2.2.2.2.2.2.1
    · replace hR := yf_t c_2 hR
      refine xr_iconst (n := 15) (v := 1) C dd_X2_isEmpty_0.2.2.2.2.2.2.1 rfl rfl ?_
      refine xr_goto (tgt := 19) C dd_X2_isEmpty_0.2.2.2.2.2.2.2.1 rfl ?_
      obtain rfl := Option.some.inj hR
      exact ret 1 (by decide) ⟨rfl, rfl⟩ (Nat.le_of_ble_eq_true rfl) (Nat.le_of_ble_eq_true rfl) dd_X2_isEmpty_0.2.2.2.2.2.2.2.2.2.1
theorem dd_X2_isBetterThan_0 : dk_R cX2_isBetterThan [(0, .aload_n 0, 1), (1, .getfield 37, 3), (4, .aload_n 1, 1), (5, .getfield 37, 3), (8, .if_icmp .eq 20, 3), (11, .aload_n 0, 1), (12, .getfield 37, 3), (15, .aload_n 1, 1), (16, .getfield 37, 3), (19, .if_icmp .ge 7, 3), (22, .iconst 1, 1), (23, .goto 4, 3), (26, .iconst 0, 1), (27, .ireturn, 1), (28, .aload_n 0, 1), (29, .getfield 25, 3)] := dk_use _ _ (by decide +kernel)
theorem dd_X2_isBetterThan_1 : dk_R cX2_isBetterThan [(32, .aload_n 0, 1), (33, .getfield 28, 3), (36, .imul, 1), (37, .aload_n 1, 1), (38, .getfield 25, 3), (41, .aload_n 1, 1), (42, .getfield 28, 3), (45, .imul, 1), (46, .if_icmp .ge 7, 3), (49, .iconst 1, 1), (50, .goto 4, 3), (53, .iconst 0, 1), (54, .ireturn, 1)] := dk_use _ _ (by decide +kernel)
def fX2_isBetterThan (y5 : Int32) (y6 : Int32) (y9 : Int32) (t5 : Int32) (t6 : Int32) (t9 : Int32) : Option (Int32) := (if y9 = t9 then (if (t5 * t6) ≤ (y5 * y6) then some 0 else some 1) else (if t9 ≤ y9 then some 0 else some 1))
abbrev hX2_isBetterThan : Cond := .code yX2_isBetterThan cX2_isBetterThan 2 (some .boolean)
theorem mX2_isBetterThan : yM yX2_isBetterThan hX2_isBetterThan 1 := ⟨u_385, u_63, by decide +kernel, by decide +kernel, by decide +kernel⟩
set_option maxHeartbeats 4000000 in
set_option maxRecDepth 100000 in
theorem kX2_isBetterThan (l : Launch) (D : va_G) (cy : Nat → ClassId) (y : Nat) (y0 : Int32) (y1 : Int32) (y2 : Int32) (y3 : Int32) (y4 : Int32) (y5 : Int32) (y6 : Int32) (y7 : Int32) (y8 : Int32) (y9 : Int32) (t : Nat) (t0 : Int32) (t1 : Int32) (t2 : Int32) (t3 : Int32) (t4 : Int32) (t5 : Int32) (t6 : Int32) (t7 : Int32) (t8 : Int32) (t9 : Int32) {res : Int32} (hR : fX2_isBetterThan y5 y6 y9 t5 t6 t9 = some res) : YM l D cy yX2_isBetterThan hX2_isBetterThan 1 0 0 [.ref y, .ref t] [[(y, .inr (4, [.int y0, .int y1, .int y2, .int y3, .int y4, .int y5, .int y6, .int y7, .int y8, .int y9]))], [(t, .inr (4, [.int t0, .int t1, .int t2, .int t3, .int t4, .int t5, .int t6, .int t7, .int t8, .int t9]))]] (fun v u => v = some (.int res) ∧ u = [[(y, .inr (4, [.int y0, .int y1, .int y2, .int y3, .int y4, .int y5, .int y6, .int y7, .int y8, .int y9]))], [(t, .inr (4, [.int t0, .int t1, .int t2, .int t3, .int t4, .int t5, .int t6, .int t7, .int t8, .int t9]))]]) := by
  unfold fX2_isBetterThan at hR
  refine YM.ofZ (cc := cX2_isBetterThan) (maxL := 2) (ret := (some .boolean)) (by decide +kernel) rfl (Nat.le_of_ble_eq_true rfl) [(0, .ref y), (1, .ref t)] rfl .boolean rfl (fun p e s m args below meth c A H0 Q C hnm ret => ?_)
  refine xr_aload_n (n := 1) (j := 0) C dd_X2_isBetterThan_0.1 rfl rfl ?_
  refine xr_get (n := 4) C 0 rfl rfl 9 (by decide) in_X2 u_224 rfl (v := .int y9) rfl dd_X2_isBetterThan_0.2.1 rfl ?_
  refine xr_aload_n (n := 5) (j := 1) C dd_X2_isBetterThan_0.2.2.1 rfl rfl ?_
  refine xr_get (n := 8) C 1 rfl rfl 9 (by decide) in_X2 u_224 rfl (v := .int t9) rfl dd_X2_isBetterThan_0.2.2.2.1 rfl ?_
  refine xr_icmp_eq (tgt := 28) (n := 11) C dd_X2_isBetterThan_0.2.2.2.2.1 rfl rfl (fun c_1 => ?_) (fun c_1 => ?_)
  · replace hR := yf_t c_1 hR
    refine xr_aload_n (n := 29) (j := 0) C dd_X2_isBetterThan_0.2.2.2.2.2.2.2.2.2.2.2.2.2.2.1 rfl rfl ?_
    refine xr_get (n := 32) C 0 rfl rfl 5 (by decide) in_X2 u_218 rfl (v := .int y5) rfl dd_X2_isBetterThan_0.2.2.2.2.2.2.2.2.2.2.2.2.2.2.2.1 rfl ?_
    refine xr_aload_n (n := 33) (j := 0) C dd_X2_isBetterThan_1.1 rfl rfl ?_
    refine xr_get (n := 36) C 0 rfl rfl 6 (by decide) in_X2 u_220 rfl (v := .int y6) rfl dd_X2_isBetterThan_1.2.1 rfl ?_
    refine xr_imul (n := 37) C dd_X2_isBetterThan_1.2.2.1 rfl ?_
    refine xr_aload_n (n := 38) (j := 1) C dd_X2_isBetterThan_1.2.2.2.1 rfl rfl ?_
    refine xr_get (n := 41) C 1 rfl rfl 5 (by decide) in_X2 u_218 rfl (v := .int t5) rfl dd_X2_isBetterThan_1.2.2.2.2.1 rfl ?_
    refine xr_aload_n (n := 42) (j := 1) C dd_X2_isBetterThan_1.2.2.2.2.2.1 rfl rfl ?_
    refine xr_get (n := 45) C 1 rfl rfl 6 (by decide) in_X2 u_220 rfl (v := .int t6) rfl dd_X2_isBetterThan_1.2.2.2.2.2.2.1 rfl ?_
    refine xr_imul (n := 46) C dd_X2_isBetterThan_1.2.2.2.2.2.2.2.1 rfl ?_
    refine xr_icmp_ge (tgt := 53) (n := 49) C dd_X2_isBetterThan_1.2.2.2.2.2.2.2.2.1 rfl rfl (fun c_2 => ?_) (fun c_2 => ?_)
    · replace hR := yf_t c_2 hR
      refine xr_iconst (n := 54) (v := 0) C dd_X2_isBetterThan_1.2.2.2.2.2.2.2.2.2.2.2.1 rfl rfl ?_
      obtain rfl := Option.some.inj hR
      exact ret 0 (by decide) ⟨rfl, rfl⟩ (Nat.le_of_ble_eq_true rfl) (Nat.le_of_ble_eq_true rfl) dd_X2_isBetterThan_1.2.2.2.2.2.2.2.2.2.2.2.2.1
    · replace hR := yf_f c_2 hR
      refine xr_iconst (n := 50) (v := 1) C dd_X2_isBetterThan_1.2.2.2.2.2.2.2.2.2.1 rfl rfl ?_
      refine xr_goto (tgt := 54) C dd_X2_isBetterThan_1.2.2.2.2.2.2.2.2.2.2.1 rfl ?_
      obtain rfl := Option.some.inj hR
      exact ret 1 (by decide) ⟨rfl, rfl⟩ (Nat.le_of_ble_eq_true rfl) (Nat.le_of_ble_eq_true rfl) dd_X2_isBetterThan_1.2.2.2.2.2.2.2.2.2.2.2.2.1
  · replace hR := yf_f c_1 hR
    refine xr_aload_n (n := 12) (j := 0) C dd_X2_isBetterThan_0.2.2.2.2.2.1 rfl rfl ?_
    refine xr_get (n := 15) C 0 rfl rfl 9 (by decide) in_X2 u_224 rfl (v := .int y9) rfl dd_X2_isBetterThan_0.2.2.2.2.2.2.1 rfl ?_
    refine xr_aload_n (n := 16) (j := 1) C dd_X2_isBetterThan_0.2.2.2.2.2.2.2.1 rfl rfl ?_
    refine xr_get (n := 19) C 1 rfl rfl 9 (by decide) in_X2 u_224 rfl (v := .int t9) rfl dd_X2_isBetterThan_0.2.2.2.2.2.2.2.2.1 rfl ?_
    refine xr_icmp_ge (tgt := 26) (n := 22) C dd_X2_isBetterThan_0.2.2.2.2.2.2.2.2.2.1 rfl rfl (fun c_3 => ?_) (fun c_3 => ?_)
    · replace hR := yf_t c_3 hR
      refine xr_iconst (n := 27) (v := 0) C dd_X2_isBetterThan_0.2.2.2.2.2.2.2.2.2.2.2.2.1 rfl rfl ?_
      obtain rfl := Option.some.inj hR
      exact ret 0 (by decide) ⟨rfl, rfl⟩ (Nat.le_of_ble_eq_true rfl) (Nat.le_of_ble_eq_true rfl) dd_X2_isBetterThan_0.2.2.2.2.2.2.2.2.2.2.2.2.2.1
    · replace hR := yf_f c_3 hR
      refine xr_iconst (n := 23) (v := 1) C dd_X2_isBetterThan_0.2.2.2.2.2.2.2.2.2.2.1 rfl rfl ?_
      refine xr_goto (tgt := 27) C dd_X2_isBetterThan_0.2.2.2.2.2.2.2.2.2.2.2.1 rfl ?_
      obtain rfl := Option.some.inj hR
      exact ret 1 (by decide) ⟨rfl, rfl⟩ (Nat.le_of_ble_eq_true rfl) (Nat.le_of_ble_eq_true rfl) dd_X2_isBetterThan_0.2.2.2.2.2.2.2.2.2.2.2.2.2.1
theorem dd_X3_clear_0 : dk_R cX3_clear [(0, .aload_n 0, 1), (1, .iconst 0, 1), (2, .putfield 18, 3), (5, .aload_n 0, 1), (6, .iconst 0, 1), (7, .putfield 22, 3), (10, .aload_n 0, 1), (11, .iconst 0, 1), (12, .putfield 25, 3), (15, .return_, 1)] := dk_use _ _ (by decide +kernel)
def fX3_clear  : Option (Int32 × Int32 × Int32) := some (0, 0, 0)
abbrev hX3_clear : Cond := .code yX3_clear cX3_clear 1 none
theorem mX3_clear : yM yX3_clear hX3_clear 0 := ⟨u_786, u_61, by decide +kernel, by decide +kernel, by decide +kernel⟩
set_option maxHeartbeats 4000000 in
set_option maxRecDepth 100000 in
theorem kX3_clear (l : Launch) (D : va_G) (cy : Nat → ClassId) (z : Nat) (zv : Nat) (zr : Int32) (zc : Int32) (zs : Int32) {res : Int32 × Int32 × Int32} (hR : fX3_clear  = some res) : YM l D cy yX3_clear hX3_clear 1 0 0 [.ref z] [[(z, .inr (5, [.ref zv, .int zr, .int zc, .int zs]))]] (fun v u => v = none ∧ u = [[(z, .inr (5, [.ref zv, .int res.1, .int res.2.1, .int res.2.2]))]]) := by
  unfold fX3_clear at hR
  refine YM.ofV (cc := cX3_clear) (maxL := 1) (ret := none) (by decide +kernel) rfl (Nat.le_of_ble_eq_true rfl) [(0, .ref z)] rfl rfl (fun p e s m args below meth c A H0 Q C hnm ret => ?_)
  refine xr_aload_n (n := 1) (j := 0) C dd_X3_clear_0.1 rfl rfl ?_
  refine xr_iconst (n := 2) (v := 0) C dd_X3_clear_0.2.1 rfl rfl ?_
  refine xr_put (n := 5) C 0 rfl rfl 1 (by decide) in_X3 tyX3 tyX3_ok nmX3 u_176 rfl rfl rfl rfl (Nat.le_of_ble_eq_true rfl) [[(z, .inr (5, [.ref zv, .int 0, .int zc, .int zs]))]] rfl rfl dd_X3_clear_0.2.2.1 ?_
  refine xr_aload_n (n := 6) (j := 0) C dd_X3_clear_0.2.2.2.1 rfl rfl ?_
  refine xr_iconst (n := 7) (v := 0) C dd_X3_clear_0.2.2.2.2.1 rfl rfl ?_
  refine xr_put (n := 10) C 0 rfl rfl 2 (by decide) in_X3 tyX3 tyX3_ok nmX3 u_178 rfl rfl rfl rfl (Nat.le_of_ble_eq_true rfl) [[(z, .inr (5, [.ref zv, .int 0, .int 0, .int zs]))]] rfl rfl dd_X3_clear_0.2.2.2.2.2.1 ?_
  refine xr_aload_n (n := 11) (j := 0) C dd_X3_clear_0.2.2.2.2.2.2.1 rfl rfl ?_
  refine xr_iconst (n := 12) (v := 0) C dd_X3_clear_0.2.2.2.2.2.2.2.1 rfl rfl ?_
  refine xr_put (n := 15) C 0 rfl rfl 3 (by decide) in_X3 tyX3 tyX3_ok nmX3 u_180 rfl rfl (by decide) (by decide) (Nat.le_of_ble_eq_true rfl) [[(z, .inr (5, [.ref zv, .int 0, .int 0, .int 0]))]] rfl rfl dd_X3_clear_0.2.2.2.2.2.2.2.2.1 ?_
  obtain rfl := Option.some.inj hR
  exact ret ⟨rfl, rfl⟩ (Nat.le_of_ble_eq_true rfl) (Nat.le_of_ble_eq_true rfl) dd_X3_clear_0.2.2.2.2.2.2.2.2.2.1
theorem dd_X3_open_0 : dk_R cX3_open [(0, .aload_n 0, 1), (1, .aload_n 1, 1), (2, .invokevirtual 29, 3), (5, .putfield 18, 3), (8, .aload_n 0, 1), (9, .aload_n 1, 1), (10, .invokevirtual 35, 3), (13, .putfield 22, 3), (16, .aload_n 0, 1), (17, .aload_n 1, 1), (18, .getfield 38, 3), (21, .putfield 25, 3), (24, .return_, 1)] := dk_use _ _ (by decide +kernel)
def fX3_open (jr : Int32) (jc : Int32) (js : Int32) : Option (Int32 × Int32 × Int32) := ((fX1_rowsInAll jr js).bind fun x_1 => ((fX1_columnsInAll jc js).bind fun x_5 => (if js = 0 ∨ js = 1 then some (x_1, x_5, js) else none)))
abbrev hX3_open : Cond := .code yX3_open cX3_open 2 none
theorem mX3_open : yM yX3_open hX3_open 1 := ⟨u_826, u_61, by decide +kernel, by decide +kernel, by decide +kernel⟩
set_option maxHeartbeats 4000000 in
set_option maxRecDepth 100000 in
theorem kX3_open (l : Launch) (D : va_G) (cy : Nat → ClassId) (z : Nat) (zv : Nat) (zr : Int32) (zc : Int32) (zs : Int32) (j : Nat) (ja : Nat) (jb : Nat) (jr : Int32) (jk : Int32) (jc : Int32) (jg : Int32) (js : Int32) {res : Int32 × Int32 × Int32} (hR : fX3_open jr jc js = some res) : YM l D cy yX3_open hX3_open 2 0 0 [.ref z, .ref j] [[(z, .inr (5, [.ref zv, .int zr, .int zc, .int zs]))], [(j, .inr (3, [.ref ja, .ref jb, .int jr, .int jk, .int jc, .int jg, .int js]))]] (fun v u => v = none ∧ u = [[(z, .inr (5, [.ref zv, .int res.1, .int res.2.1, .int res.2.2]))], [(j, .inr (3, [.ref ja, .ref jb, .int jr, .int jk, .int jc, .int jg, .int js]))]]) := by
  unfold fX3_open at hR
  refine YM.ofV (cc := cX3_open) (maxL := 2) (ret := none) (by decide +kernel) rfl (Nat.le_of_ble_eq_true rfl) [(0, .ref z), (1, .ref j)] rfl rfl (fun p e s m args below meth c A H0 Q C hnm ret => ?_)
  refine xr_aload_n (n := 1) (j := 0) C dd_X3_open_0.1 rfl rfl ?_
  refine xr_aload_n (n := 2) (j := 1) C dd_X3_open_0.2.1 rfl rfl ?_
  obtain ⟨x_1, hx_1, hR⟩ := yf_b hR
  refine xr_callVp (n := 5) (As := []) (rest := [.ref z]) C (kX1_rowsInAll l D cy (j := j) (ja := ja) (jb := jb) (jr := jr) (jk := jk) (jc := jc) (jg := jg) (js := js) hx_1) mX1_rowsInAll u_827 u_321 u_322 1 rfl rfl 2 [1] [0] rfl (by decide +kernel) rfl rfl rfl rfl (Nat.le_of_ble_eq_true rfl) (Nat.le_of_ble_eq_true rfl) (Nat.le_of_ble_eq_true rfl) (Nat.le_of_ble_eq_true rfl) (Nat.le_of_ble_eq_true rfl) dd_X3_open_0.2.2.1 rfl (fun _ _ hp => hp.2) (fun v_2 hp_4 => ?_)
  obtain ⟨rfl, -⟩ := hp_4
  refine xr_st (st' := [.int x_1, .ref z]) rfl ?_
  refine xr_put (n := 8) C 0 rfl rfl 1 (by decide) in_X3 tyX3 tyX3_ok nmX3 u_176 rfl rfl rfl rfl (Nat.le_of_ble_eq_true rfl) [[(z, .inr (5, [.ref zv, .int x_1, .int zc, .int zs]))], [(j, .inr (3, [.ref ja, .ref jb, .int jr, .int jk, .int jc, .int jg, .int js]))]] rfl rfl dd_X3_open_0.2.2.2.1 ?_
  refine xr_aload_n (n := 9) (j := 0) C dd_X3_open_0.2.2.2.2.1 rfl rfl ?_
  refine xr_aload_n (n := 10) (j := 1) C dd_X3_open_0.2.2.2.2.2.1 rfl rfl ?_
  obtain ⟨x_5, hx_5, hR⟩ := yf_b hR
  refine xr_callVp (n := 13) (As := []) (rest := [.ref z]) C (kX1_columnsInAll l D cy (j := j) (ja := ja) (jb := jb) (jr := jr) (jk := jk) (jc := jc) (jg := jg) (js := js) hx_5) mX1_columnsInAll u_828 u_325 u_326 1 rfl rfl 2 [1] [0] rfl (by decide +kernel) rfl rfl rfl rfl (Nat.le_of_ble_eq_true rfl) (Nat.le_of_ble_eq_true rfl) (Nat.le_of_ble_eq_true rfl) (Nat.le_of_ble_eq_true rfl) (Nat.le_of_ble_eq_true rfl) dd_X3_open_0.2.2.2.2.2.2.1 rfl (fun _ _ hp => hp.2) (fun v_6 hp_8 => ?_)
  obtain ⟨rfl, -⟩ := hp_8
  refine xr_st (st' := [.int x_5, .ref z]) rfl ?_
  refine xr_put (n := 16) C 0 rfl rfl 2 (by decide) in_X3 tyX3 tyX3_ok nmX3 u_178 rfl rfl rfl rfl (Nat.le_of_ble_eq_true rfl) [[(z, .inr (5, [.ref zv, .int x_1, .int x_5, .int zs]))], [(j, .inr (3, [.ref ja, .ref jb, .int jr, .int jk, .int jc, .int jg, .int js]))]] rfl rfl dd_X3_open_0.2.2.2.2.2.2.2.1 ?_
  refine xr_aload_n (n := 17) (j := 0) C dd_X3_open_0.2.2.2.2.2.2.2.2.1 rfl rfl ?_
  refine xr_aload_n (n := 18) (j := 1) C dd_X3_open_0.2.2.2.2.2.2.2.2.2.1 rfl rfl ?_
  refine xr_getN (n := 21) C 1 rfl rfl 6 (by decide) in_X1 RX6 (List.mem_of_getElem? (i := 8) rfl) rfl (v := .int js) rfl dd_X3_open_0.2.2.2.2.2.2.2.2.2.2.1 rfl ?_
  obtain ⟨g_9, hR⟩ := yf_g hR
  refine xr_put (n := 24) C 0 rfl rfl 3 (by decide) in_X3 tyX3 tyX3_ok nmX3 u_180 rfl rfl (ynz_f g_9) (ynz_n g_9) (Nat.le_of_ble_eq_true rfl) [[(z, .inr (5, [.ref zv, .int x_1, .int x_5, .int js]))], [(j, .inr (3, [.ref ja, .ref jb, .int jr, .int jk, .int jc, .int jg, .int js]))]] rfl rfl dd_X3_open_0.2.2.2.2.2.2.2.2.2.2.2.1 ?_
  obtain rfl := Option.some.inj hR
  exact ret ⟨rfl, rfl⟩ (Nat.le_of_ble_eq_true rfl) (Nat.le_of_ble_eq_true rfl) dd_X3_open_0.2.2.2.2.2.2.2.2.2.2.2.2.1
theorem dd_X3_has_0 : dk_R cX3_has [(0, .iload_n 1, 1), (1, .ifCond .lt 27, 3), (4, .iload_n 1, 1), (5, .aload_n 0, 1), (6, .getfield 18, 3), (9, .if_icmp .ge 19, 3), (12, .iload_n 2, 1), (13, .ifCond .lt 15, 3), (16, .iload_n 2, 1), (17, .aload_n 0, 1), (18, .getfield 22, 3), (21, .if_icmp .ge 7, 3), (24, .iconst 1, 1), (25, .goto 4, 3), (28, .iconst 0, 1), (29, .ireturn, 1)] := dk_use _ _ (by decide +kernel)
def fX3_has (zr : Int32) (zc : Int32) (i1 : Int32) (i2 : Int32) : Option (Int32) := (if i1 < 0 then some 0 else (if zr ≤ i1 then some 0 else (if i2 < 0 then some 0 else (if zc ≤ i2 then some 0 else some 1))))
abbrev hX3_has : Cond := .code yX3_has cX3_has 3 (some .boolean)
theorem mX3_has : yM yX3_has hX3_has 2 := ⟨u_839, u_61, by decide +kernel, by decide +kernel, by decide +kernel⟩
set_option maxHeartbeats 4000000 in
set_option maxRecDepth 100000 in
theorem kX3_has (l : Launch) (D : va_G) (cy : Nat → ClassId) (z : Nat) (zv : Nat) (zr : Int32) (zc : Int32) (zs : Int32) (i1 : Int32) (i2 : Int32) {res : Int32} (hR : fX3_has zr zc i1 i2 = some res) : YM l D cy yX3_has hX3_has 1 0 0 [.ref z, .int i1, .int i2] [[(z, .inr (5, [.ref zv, .int zr, .int zc, .int zs]))]] (fun v u => v = some (.int res) ∧ u = [[(z, .inr (5, [.ref zv, .int zr, .int zc, .int zs]))]]) := by
  unfold fX3_has at hR
  refine YM.ofZ (cc := cX3_has) (maxL := 3) (ret := (some .boolean)) (by decide +kernel) rfl (Nat.le_of_ble_eq_true rfl) [(0, .ref z), (1, .int i1), (2, .int i2)] rfl .boolean rfl (fun p e s m args below meth c A H0 Q C hnm ret => ?_)
  refine xr_iload_n (n := 1) (j := 1) C dd_X3_has_0.1 rfl rfl ?_
  refine xr_if_lt (tgt := 28) (n := 4) C dd_X3_has_0.2.1 rfl rfl (fun c_1 => ?_) (fun c_1 => ?_)
  · replace hR := yf_t c_1 hR
    refine xr_iconst (n := 29) (v := 0) C dd_X3_has_0.2.2.2.2.2.2.2.2.2.2.2.2.2.2.1 rfl rfl ?_
    obtain rfl := Option.some.inj hR
    exact ret 0 (by decide) ⟨rfl, rfl⟩ (Nat.le_of_ble_eq_true rfl) (Nat.le_of_ble_eq_true rfl) dd_X3_has_0.2.2.2.2.2.2.2.2.2.2.2.2.2.2.2.1
  · replace hR := yf_f c_1 hR
    refine xr_iload_n (n := 5) (j := 1) C dd_X3_has_0.2.2.1 rfl rfl ?_
    refine xr_aload_n (n := 6) (j := 0) C dd_X3_has_0.2.2.2.1 rfl rfl ?_
    refine xr_get (n := 9) C 0 rfl rfl 1 (by decide) in_X3 u_176 rfl (v := .int zr) rfl dd_X3_has_0.2.2.2.2.1 rfl ?_
    refine xr_icmp_ge (tgt := 28) (n := 12) C dd_X3_has_0.2.2.2.2.2.1 rfl rfl (fun c_2 => ?_) (fun c_2 => ?_)
    · replace hR := yf_t c_2 hR
      refine xr_iconst (n := 29) (v := 0) C dd_X3_has_0.2.2.2.2.2.2.2.2.2.2.2.2.2.2.1 rfl rfl ?_
      obtain rfl := Option.some.inj hR
      exact ret 0 (by decide) ⟨rfl, rfl⟩ (Nat.le_of_ble_eq_true rfl) (Nat.le_of_ble_eq_true rfl) dd_X3_has_0.2.2.2.2.2.2.2.2.2.2.2.2.2.2.2.1
    · replace hR := yf_f c_2 hR
      refine xr_iload_n (n := 13) (j := 2) C dd_X3_has_0.2.2.2.2.2.2.1 rfl rfl ?_
      refine xr_if_lt (tgt := 28) (n := 16) C dd_X3_has_0.2.2.2.2.2.2.2.1 rfl rfl (fun c_3 => ?_) (fun c_3 => ?_)
      · replace hR := yf_t c_3 hR
        refine xr_iconst (n := 29) (v := 0) C dd_X3_has_0.2.2.2.2.2.2.2.2.2.2.2.2.2.2.1 rfl rfl ?_
        obtain rfl := Option.some.inj hR
        exact ret 0 (by decide) ⟨rfl, rfl⟩ (Nat.le_of_ble_eq_true rfl) (Nat.le_of_ble_eq_true rfl) dd_X3_has_0.2.2.2.2.2.2.2.2.2.2.2.2.2.2.2.1
      · replace hR := yf_f c_3 hR
        refine xr_iload_n (n := 17) (j := 2) C dd_X3_has_0.2.2.2.2.2.2.2.2.1 rfl rfl ?_
        refine xr_aload_n (n := 18) (j := 0) C dd_X3_has_0.2.2.2.2.2.2.2.2.2.1 rfl rfl ?_
        refine xr_get (n := 21) C 0 rfl rfl 2 (by decide) in_X3 u_178 rfl (v := .int zc) rfl dd_X3_has_0.2.2.2.2.2.2.2.2.2.2.1 rfl ?_
        refine xr_icmp_ge (tgt := 28) (n := 24) C dd_X3_has_0.2.2.2.2.2.2.2.2.2.2.2.1 rfl rfl (fun c_4 => ?_) (fun c_4 => ?_)
        · replace hR := yf_t c_4 hR
          refine xr_iconst (n := 29) (v := 0) C dd_X3_has_0.2.2.2.2.2.2.2.2.2.2.2.2.2.2.1 rfl rfl ?_
          obtain rfl := Option.some.inj hR
          exact ret 0 (by decide) ⟨rfl, rfl⟩ (Nat.le_of_ble_eq_true rfl) (Nat.le_of_ble_eq_true rfl) dd_X3_has_0.2.2.2.2.2.2.2.2.2.2.2.2.2.2.2.1
        · replace hR := yf_f c_4 hR
          refine xr_iconst (n := 25) (v := 1) C dd_X3_has_0.2.2.2.2.2.2.2.2.2.2.2.2.1 rfl rfl ?_
          refine xr_goto (tgt := 29) C dd_X3_has_0.2.2.2.2.2.2.2.2.2.2.2.2.2.1 rfl ?_
          obtain rfl := Option.some.inj hR
          exact ret 1 (by decide) ⟨rfl, rfl⟩ (Nat.le_of_ble_eq_true rfl) (Nat.le_of_ble_eq_true rfl) dd_X3_has_0.2.2.2.2.2.2.2.2.2.2.2.2.2.2.2.1
theorem dd_X3_rowError_0 : dk_R cX3_rowError [(0, .aload_n 0, 1), (1, .getfield 12, 3), (4, .iload_n 1, 1), (5, .aload_n 0, 1), (6, .getfield 22, 3), (9, .iconst 1, 1), (10, .isub, 1), (11, .invokevirtual 52, 3), (14, .ineg, 1), (15, .istore_n 2, 1), (16, .iconst 0, 1), (17, .istore_n 3, 1), (18, .iload_n 3, 1), (19, .aload_n 0, 1), (20, .getfield 22, 3), (23, .iconst 1, 1)] := dk_use _ _ (by decide +kernel)
theorem dd_X3_rowError_1 : dk_R cX3_rowError [(24, .isub, 1), (25, .if_icmp .ge 21, 3), (28, .iload_n 2, 1), (29, .aload_n 0, 1), (30, .getfield 12, 3), (33, .iload_n 1, 1), (34, .iload_n 3, 1), (35, .invokevirtual 52, 3), (38, .iadd, 1), (39, .istore_n 2, 1), (40, .iinc 3 1, 3), (43, .goto (-25), 3), (46, .iload_n 2, 1), (47, .ireturn, 1)] := dk_use _ _ (by decide +kernel)
def fX3_rowError (zc : Int32) (zvf : Nat → Int32) (i1 : Int32) : Option (Int32) := ((fX4_get zvf i1 (zc - 1)).bind fun x_1 => ((wl (S := Int32 × Int32) (B := Int32 × Int32) (fun s_5 => (if (zc - 1) ≤ s_5.2 then some (.inr (s_5.1, s_5.2)) else ((fX4_get zvf i1 s_5.2).bind fun x_8 => some (.inl (s_5.1 + x_8, s_5.2 + 1))))) yFuel (-x_1, 0)).bind fun b_5 => some b_5.1))
abbrev hX3_rowError : Cond := .code yX3_rowError cX3_rowError 4 (some .int)
theorem mX3_rowError : yM yX3_rowError hX3_rowError 1 := ⟨u_857, u_61, by decide +kernel, by decide +kernel, by decide +kernel⟩
set_option maxHeartbeats 4000000 in
set_option maxRecDepth 100000 in
theorem kX3_rowError (l : Launch) (D : va_G) (cy : Nat → ClassId) (z : Nat) (zv : Nat) (zr : Int32) (zc : Int32) (zs : Int32) (zvn : Nat) (zvf : Nat → Int32) (i1 : Int32) {res : Int32} (hR : fX3_rowError zc zvf i1 = some res) : YM l D cy yX3_rowError hX3_rowError 2 0 0 [.ref z, .int i1] [[(z, .inr (5, [.ref zv, .int zr, .int zc, .int zs]))], [(zv, .inr (6, [.ref zvn]))], [(zvn, .inl (cy 1, 81, .inl zvf))]] (fun v u => v = some (.int res) ∧ u = [[(z, .inr (5, [.ref zv, .int zr, .int zc, .int zs]))], [(zv, .inr (6, [.ref zvn]))], [(zvn, .inl (cy 1, 81, .inl zvf))]]) := by
  unfold fX3_rowError at hR
  refine YM.ofI (cc := cX3_rowError) (maxL := 4) (ret := (some .int)) (by decide +kernel) rfl (Nat.le_of_ble_eq_true rfl) [(0, .ref z), (1, .int i1)] rfl rfl (fun p e s m args below meth c A H0 Q C hnm ret => ?_)
  refine xr_aload_n (n := 1) (j := 0) C dd_X3_rowError_0.1 rfl rfl ?_
  refine xr_get (n := 4) C 0 rfl rfl 0 (by decide) in_X3 u_173 rfl (v := .ref zv) rfl dd_X3_rowError_0.2.1 rfl ?_
  refine xr_iload_n (n := 5) (j := 1) C dd_X3_rowError_0.2.2.1 rfl rfl ?_
  refine xr_aload_n (n := 6) (j := 0) C dd_X3_rowError_0.2.2.2.1 rfl rfl ?_
  refine xr_get (n := 9) C 0 rfl rfl 2 (by decide) in_X3 u_178 rfl (v := .int zc) rfl dd_X3_rowError_0.2.2.2.2.1 rfl ?_
  refine xr_iconst (n := 10) (v := 1) C dd_X3_rowError_0.2.2.2.2.2.1 rfl rfl ?_
  refine xr_isub (n := 11) C dd_X3_rowError_0.2.2.2.2.2.2.1 rfl ?_
  obtain ⟨x_1, hx_1, hR⟩ := yf_b hR
  refine xr_callVp (n := 14) (As := [.int i1, .int (zc - 1)]) (rest := []) C (kX4_get l D cy (h := zv) (hn := zvn) (hf := zvf) (row := i1) (col := zc - 1) hx_1) mX4_get u_858 u_341 u_342 1 rfl rfl 3 [1, 2] [0] rfl (by decide +kernel) rfl rfl rfl rfl (Nat.le_of_ble_eq_true rfl) (Nat.le_of_ble_eq_true rfl) (Nat.le_of_ble_eq_true rfl) (Nat.le_of_ble_eq_true rfl) (Nat.le_of_ble_eq_true rfl) dd_X3_rowError_0.2.2.2.2.2.2.2.1 rfl (fun _ _ hp => hp.2) (fun v_2 hp_4 => ?_)
  obtain ⟨rfl, -⟩ := hp_4
  refine xr_st (st' := [.int x_1]) rfl ?_
  refine xr_ineg (n := 15) C dd_X3_rowError_0.2.2.2.2.2.2.2.2.1 rfl ?_
  refine xr_istore_n (n := 16) C [(2, .int (-x_1)), (0, .ref z), (1, .int i1)] dd_X3_rowError_0.2.2.2.2.2.2.2.2.2.1 (by decide) rfl rfl ?_
  refine xr_iconst (n := 17) (v := 0) C dd_X3_rowError_0.2.2.2.2.2.2.2.2.2.2.1 rfl rfl ?_
  refine xr_istore_n (n := 18) C [(3, .int 0), (2, .int (-x_1)), (0, .ref z), (1, .int i1)] dd_X3_rowError_0.2.2.2.2.2.2.2.2.2.2.2.1 (by decide) rfl rfl ?_
  refine xr_lv (lv' := [(0, .ref z), (1, .int i1), (2, .int (-x_1)), (3, .int 0)]) [2, 3, 1, 0] rfl ?_
  obtain ⟨b_5, hb_5, hR⟩ := yf_b hR
  have K_5 : X p l e (yR 2 0 0) s m args below meth c D A H0 4 Q [[(z, .inr (5, [.ref zv, .int zr, .int zc, .int zs]))], [(zv, .inr (6, [.ref zvn]))], [(zvn, .inl (cy 1, 81, .inl zvf))]] 0 0 [(2, .int b_5.1)] 46 [] := by
    refine xr_iload_n (n := 47) (j := 0) C dd_X3_rowError_1.2.2.2.2.2.2.2.2.2.2.2.2.1 rfl rfl ?_
    obtain rfl := Option.some.inj hR
    exact ret b_5.1 ⟨rfl, rfl⟩ (Nat.le_of_ble_eq_true rfl) (Nat.le_of_ble_eq_true rfl) dd_X3_rowError_1.2.2.2.2.2.2.2.2.2.2.2.2.2.1
  refine y_loop (P := fun (s_5 : Int32 × Int32) => X p l e (yR 2 0 0) s m args below meth c D A H0 4 Q [[(z, .inr (5, [.ref zv, .int zr, .int zc, .int zs]))], [(zv, .inr (6, [.ref zvn]))], [(zvn, .inl (cy 1, 81, .inl zvf))]] 0 0 [(0, .ref z), (1, .int i1), (2, .int s_5.1), (3, .int s_5.2)] 18 []) ?_ _ (-x_1, 0) hb_5
  intro s_5 o_5 ho_5 hk_5 hx_5
  refine xr_iload_n (n := 19) (j := 3) C dd_X3_rowError_0.2.2.2.2.2.2.2.2.2.2.2.2.1 rfl rfl ?_
  refine xr_aload_n (n := 20) (j := 0) C dd_X3_rowError_0.2.2.2.2.2.2.2.2.2.2.2.2.2.1 rfl rfl ?_
  refine xr_get (n := 23) C 0 rfl rfl 2 (by decide) in_X3 u_178 rfl (v := .int zc) rfl dd_X3_rowError_0.2.2.2.2.2.2.2.2.2.2.2.2.2.2.1 rfl ?_
  refine xr_iconst (n := 24) (v := 1) C dd_X3_rowError_0.2.2.2.2.2.2.2.2.2.2.2.2.2.2.2.1 rfl rfl ?_
  refine xr_isub (n := 25) C dd_X3_rowError_1.1 rfl ?_
  refine xr_icmp_ge (tgt := 46) (n := 28) C dd_X3_rowError_1.2.1 rfl rfl (fun c_6 => ?_) (fun c_6 => ?_)
  · replace ho_5 := yf_t c_6 ho_5
    refine xr_lv (lv' := [(2, .int s_5.1)]) [2] rfl ?_
    have e_7 := hx_5 _ (Option.some.inj ho_5).symm
    subst e_7
    exact K_5
  · replace ho_5 := yf_f c_6 ho_5
    refine xr_iload_n (n := 29) (j := 2) C dd_X3_rowError_1.2.2.1 rfl rfl ?_
    refine xr_aload_n (n := 30) (j := 0) C dd_X3_rowError_1.2.2.2.1 rfl rfl ?_
    refine xr_get (n := 33) C 0 rfl rfl 0 (by decide) in_X3 u_173 rfl (v := .ref zv) rfl dd_X3_rowError_1.2.2.2.2.1 rfl ?_
    refine xr_iload_n (n := 34) (j := 1) C dd_X3_rowError_1.2.2.2.2.2.1 rfl rfl ?_
    refine xr_iload_n (n := 35) (j := 3) C dd_X3_rowError_1.2.2.2.2.2.2.1 rfl rfl ?_
    obtain ⟨x_8, hx_8, ho_5⟩ := yf_b ho_5
    refine xr_callVp (n := 38) (As := [.int i1, .int s_5.2]) (rest := [.int s_5.1]) C (kX4_get l D cy (h := zv) (hn := zvn) (hf := zvf) (row := i1) (col := s_5.2) hx_8) mX4_get u_858 u_341 u_342 1 rfl rfl 3 [1, 2] [0] rfl (by decide +kernel) rfl rfl rfl rfl (Nat.le_of_ble_eq_true rfl) (Nat.le_of_ble_eq_true rfl) (Nat.le_of_ble_eq_true rfl) (Nat.le_of_ble_eq_true rfl) (Nat.le_of_ble_eq_true rfl) dd_X3_rowError_1.2.2.2.2.2.2.2.1 rfl (fun _ _ hp => hp.2) (fun v_9 hp_11 => ?_)
    obtain ⟨rfl, -⟩ := hp_11
    refine xr_st (st' := [.int x_8, .int s_5.1]) rfl ?_
    refine xr_iadd (n := 39) C dd_X3_rowError_1.2.2.2.2.2.2.2.2.1 rfl ?_
    refine xr_istore_n (n := 40) C [(2, .int (s_5.1 + x_8)), (0, .ref z), (1, .int i1), (3, .int s_5.2)] dd_X3_rowError_1.2.2.2.2.2.2.2.2.2.1 (by decide) rfl rfl ?_
    refine xr_iinc (j := 3) (v := s_5.2 + 1) (n := 43) C [(3, .int (s_5.2 + 1)), (2, .int (s_5.1 + x_8)), (0, .ref z), (1, .int i1)] dd_X3_rowError_1.2.2.2.2.2.2.2.2.2.2.1 rfl rfl (by decide) rfl rfl ?_
    refine xr_goto (tgt := 18) C dd_X3_rowError_1.2.2.2.2.2.2.2.2.2.2.2.1 rfl ?_
    refine xr_lv (lv' := [(0, .ref z), (1, .int i1), (2, .int (s_5.1 + x_8)), (3, .int (s_5.2 + 1))]) [2, 3, 1, 0] rfl ?_
    exact hk_5 (s_5.1 + x_8, s_5.2 + 1) (Option.some.inj ho_5).symm
