theorem u_119 : Cond.fieldLink RX1 31 "Pulsemesh$Job" "reckoning" "I" ∈ yU := yu_tables_1_1 63 (by decide +kernel) (by decide +kernel)
theorem u_767 : Cond.methodLink RX1 42 yX4_copyFrom ∈ yU := yu_tables_1_3 231 (by decide +kernel) (by decide +kernel)
theorem u_768 : Cond.instanceMethod yX4_copyFrom ∈ yU := yu_tables_1_3 232 (by decide +kernel) (by decide +kernel)
theorem u_769 : Cond.selects RX4 yX4_copyFrom yX4_copyFrom ∈ yU := yu_tables_1_3 233 (by decide +kernel) (by decide +kernel)
theorem u_766 : Cond.code yX1_copyFrom cX1_copyFrom 2 none ∈ yU := yu_tables_1_3 230 (by decide +kernel) (by decide +kernel)
theorem u_340 : Cond.methodLink RX1 46 yX4_get ∈ yU := yu_tables_1_2 44 (by decide +kernel) (by decide +kernel)
theorem u_642 : Cond.code yX1_countOperands cX1_countOperands 4 (some .int) ∈ yU := yu_tables_1_3 106 (by decide +kernel) (by decide +kernel)
theorem u_535 : Cond.code yX1_leftOperand cX1_leftOperand 5 (some .int) ∈ yU := yu_tables_1_2 239 (by decide +kernel) (by decide +kernel)
theorem u_539 : Cond.code yX1_topOperand cX1_topOperand 5 (some .int) ∈ yU := yu_tables_1_3 3 (by decide +kernel) (by decide +kernel)
theorem u_527 : Cond.code yX1_firstSum cX1_firstSum 1 (some .int) ∈ yU := yu_tables_1_2 231 (by decide +kernel) (by decide +kernel)
theorem u_532 : Cond.methodLink RX1 50 yX1_leftOperand ∈ yU := yu_tables_1_2 236 (by decide +kernel) (by decide +kernel)
theorem u_533 : Cond.instanceMethod yX1_leftOperand ∈ yU := yu_tables_1_2 237 (by decide +kernel) (by decide +kernel)
theorem u_534 : Cond.selects RX1 yX1_leftOperand yX1_leftOperand ∈ yU := yu_tables_1_2 238 (by decide +kernel) (by decide +kernel)
theorem u_536 : Cond.methodLink RX1 53 yX1_topOperand ∈ yU := yu_tables_1_3 0 (by decide +kernel) (by decide +kernel)
theorem u_537 : Cond.instanceMethod yX1_topOperand ∈ yU := yu_tables_1_3 1 (by decide +kernel) (by decide +kernel)
theorem u_538 : Cond.selects RX1 yX1_topOperand yX1_topOperand ∈ yU := yu_tables_1_3 2 (by decide +kernel) (by decide +kernel)
theorem u_540 : Cond.methodLink RX1 56 yJ9_min_7cf53 ∈ yU := yu_tables_1_3 4 (by decide +kernel) (by decide +kernel)
theorem u_438 : Cond.static yJ9_min_7cf53 ∈ yU := yu_tables_1_2 142 (by decide +kernel) (by decide +kernel)
theorem u_74 : Cond.initialized RJ9 ∈ yU := yu_tables_1_1 18 (by decide +kernel) (by decide +kernel)
theorem u_439 : Cond.code Lib.Math.min.name Lib.Math.min.code 2 (some .int) ∈ yU := yu_tables_1_2 143 (by decide +kernel) (by decide +kernel)
theorem u_541 : Cond.methodLink RX1 61 yJ9_max_7cf53 ∈ yU := yu_tables_1_3 5 (by decide +kernel) (by decide +kernel)
theorem u_445 : Cond.static yJ9_max_7cf53 ∈ yU := yu_tables_1_2 149 (by decide +kernel) (by decide +kernel)
theorem u_446 : Cond.code Lib.Math.max.name Lib.Math.max.code 2 (some .int) ∈ yU := yu_tables_1_2 150 (by decide +kernel) (by decide +kernel)
theorem u_531 : Cond.code yX1_bringIn cX1_bringIn 7 (some .int) ∈ yU := yu_tables_1_2 235 (by decide +kernel) (by decide +kernel)
theorem dd_X1_copyFrom_0 : dk_R cX1_copyFrom [(0, .aload_n 0, 1), (1, .aload_n 1, 1), (2, .getfield 21, 3), (5, .putfield 21, 3), (8, .aload_n 0, 1), (9, .aload_n 1, 1), (10, .getfield 25, 3), (13, .putfield 25, 3), (16, .aload_n 0, 1), (17, .aload_n 1, 1), (18, .getfield 28, 3), (21, .putfield 28, 3), (24, .aload_n 0, 1), (25, .aload_n 1, 1), (26, .getfield 31, 3), (29, .putfield 31, 3)] := dk_use _ _ (by decide +kernel)
theorem dd_X1_copyFrom_1 : dk_R cX1_copyFrom [(32, .aload_n 0, 1), (33, .aload_n 1, 1), (34, .getfield 34, 3), (37, .putfield 34, 3), (40, .aload_n 0, 1), (41, .getfield 12, 3), (44, .aload_n 1, 1), (45, .getfield 12, 3), (48, .invokevirtual 42, 3), (51, .aload_n 0, 1), (52, .getfield 18, 3), (55, .aload_n 1, 1), (56, .getfield 18, 3), (59, .invokevirtual 42, 3), (62, .return_, 1)] := dk_use _ _ (by decide +kernel)
def fX1_copyFrom (jaf : Nat → Int32) (jbf : Nat → Int32) (ir : Int32) (ik : Int32) (ic : Int32) (ig : Int32) (is : Int32) (iaf : Nat → Int32) (ibf : Nat → Int32) : Option (Int32 × Int32 × Int32 × Int32 × Int32 × (Nat → Int32) × (Nat → Int32)) := (if is = 0 ∨ is = 1 then ((fX4_copyFrom jaf iaf).bind fun x_2 => ((fX4_copyFrom jbf ibf).bind fun x_6 => some (ir, ik, ic, ig, is, x_2, x_6))) else none)
abbrev hX1_copyFrom : Cond := .code yX1_copyFrom cX1_copyFrom 2 none
theorem mX1_copyFrom : yM yX1_copyFrom hX1_copyFrom 1 := ⟨u_766, u_58, by decide +kernel, by decide +kernel, by decide +kernel⟩
set_option maxHeartbeats 4000000 in
set_option maxRecDepth 100000 in
theorem kX1_copyFrom (l : Launch) (D : va_G) (cy : Nat → ClassId) (j : Nat) (ja : Nat) (jb : Nat) (jr : Int32) (jk : Int32) (jc : Int32) (jg : Int32) (js : Int32) (jan : Nat) (jaf : Nat → Int32) (jbn : Nat) (jbf : Nat → Int32) (i : Nat) (ia : Nat) (ib : Nat) (ir : Int32) (ik : Int32) (ic : Int32) (ig : Int32) (is : Int32) (ian : Nat) (iaf : Nat → Int32) (ibn : Nat) (ibf : Nat → Int32) {res : Int32 × Int32 × Int32 × Int32 × Int32 × (Nat → Int32) × (Nat → Int32)} (hR : fX1_copyFrom jaf jbf ir ik ic ig is iaf ibf = some res) : YM l D cy yX1_copyFrom hX1_copyFrom 2 0 0 [.ref j, .ref i] [[(j, .inr (3, [.ref ja, .ref jb, .int jr, .int jk, .int jc, .int jg, .int js]))], [(ja, .inr (6, [.ref jan]))], [(jan, .inl (cy 1, 81, .inl jaf))], [(jb, .inr (6, [.ref jbn]))], [(jbn, .inl (cy 1, 81, .inl jbf))], [(i, .inr (3, [.ref ia, .ref ib, .int ir, .int ik, .int ic, .int ig, .int is]))], [(ia, .inr (6, [.ref ian]))], [(ian, .inl (cy 1, 81, .inl iaf))], [(ib, .inr (6, [.ref ibn]))], [(ibn, .inl (cy 1, 81, .inl ibf))]] (fun v u => v = none ∧ u = [[(j, .inr (3, [.ref ja, .ref jb, .int res.1, .int res.2.1, .int res.2.2.1, .int res.2.2.2.1, .int res.2.2.2.2.1]))], [(ja, .inr (6, [.ref jan]))], [(jan, .inl (cy 1, 81, .inl res.2.2.2.2.2.1))], [(jb, .inr (6, [.ref jbn]))], [(jbn, .inl (cy 1, 81, .inl res.2.2.2.2.2.2))], [(i, .inr (3, [.ref ia, .ref ib, .int ir, .int ik, .int ic, .int ig, .int is]))], [(ia, .inr (6, [.ref ian]))], [(ian, .inl (cy 1, 81, .inl iaf))], [(ib, .inr (6, [.ref ibn]))], [(ibn, .inl (cy 1, 81, .inl ibf))]]) := by
  unfold fX1_copyFrom at hR
  refine YM.ofV (cc := cX1_copyFrom) (maxL := 2) (ret := none) (by decide +kernel) rfl (Nat.le_of_ble_eq_true rfl) [(0, .ref j), (1, .ref i)] rfl rfl (fun p e s m args below meth c A H0 Q C hnm ret => ?_)
  refine xr_aload_n (n := 1) (j := 0) C dd_X1_copyFrom_0.1 rfl rfl ?_
  refine xr_aload_n (n := 2) (j := 1) C dd_X1_copyFrom_0.2.1 rfl rfl ?_
  refine xr_get (n := 5) C 5 rfl rfl 2 (by decide) in_X1 u_113 rfl (v := .int ir) rfl dd_X1_copyFrom_0.2.2.1 rfl ?_
  refine xr_put (n := 8) C 0 rfl rfl 2 (by decide) in_X1 tyX1 tyX1_ok nmX1 u_113 rfl rfl rfl rfl (Nat.le_of_ble_eq_true rfl) [[(j, .inr (3, [.ref ja, .ref jb, .int ir, .int jk, .int jc, .int jg, .int js]))], [(ja, .inr (6, [.ref jan]))], [(jan, .inl (cy 1, 81, .inl jaf))], [(jb, .inr (6, [.ref jbn]))], [(jbn, .inl (cy 1, 81, .inl jbf))], [(i, .inr (3, [.ref ia, .ref ib, .int ir, .int ik, .int ic, .int ig, .int is]))], [(ia, .inr (6, [.ref ian]))], [(ian, .inl (cy 1, 81, .inl iaf))], [(ib, .inr (6, [.ref ibn]))], [(ibn, .inl (cy 1, 81, .inl ibf))]] rfl rfl dd_X1_copyFrom_0.2.2.2.1 ?_
  refine xr_aload_n (n := 9) (j := 0) C dd_X1_copyFrom_0.2.2.2.2.1 rfl rfl ?_
  refine xr_aload_n (n := 10) (j := 1) C dd_X1_copyFrom_0.2.2.2.2.2.1 rfl rfl ?_
  refine xr_get (n := 13) C 5 rfl rfl 3 (by decide) in_X1 u_115 rfl (v := .int ik) rfl dd_X1_copyFrom_0.2.2.2.2.2.2.1 rfl ?_
  refine xr_put (n := 16) C 0 rfl rfl 3 (by decide) in_X1 tyX1 tyX1_ok nmX1 u_115 rfl rfl rfl rfl (Nat.le_of_ble_eq_true rfl) [[(j, .inr (3, [.ref ja, .ref jb, .int ir, .int ik, .int jc, .int jg, .int js]))], [(ja, .inr (6, [.ref jan]))], [(jan, .inl (cy 1, 81, .inl jaf))], [(jb, .inr (6, [.ref jbn]))], [(jbn, .inl (cy 1, 81, .inl jbf))], [(i, .inr (3, [.ref ia, .ref ib, .int ir, .int ik, .int ic, .int ig, .int is]))], [(ia, .inr (6, [.ref ian]))], [(ian, .inl (cy 1, 81, .inl iaf))], [(ib, .inr (6, [.ref ibn]))], [(ibn, .inl (cy 1, 81, .inl ibf))]] rfl rfl dd_X1_copyFrom_0.2.2.2.2.2.2.2.1 ?_
  refine xr_aload_n (n := 17) (j := 0) C dd_X1_copyFrom_0.2.2.2.2.2.2.2.2.1 rfl rfl ?_
  refine xr_aload_n (n := 18) (j := 1) C dd_X1_copyFrom_0.2.2.2.2.2.2.2.2.2.1 rfl rfl ?_
  refine xr_get (n := 21) C 5 rfl rfl 4 (by decide) in_X1 u_117 rfl (v := .int ic) rfl dd_X1_copyFrom_0.2.2.2.2.2.2.2.2.2.2.1 rfl ?_
  refine xr_put (n := 24) C 0 rfl rfl 4 (by decide) in_X1 tyX1 tyX1_ok nmX1 u_117 rfl rfl rfl rfl (Nat.le_of_ble_eq_true rfl) [[(j, .inr (3, [.ref ja, .ref jb, .int ir, .int ik, .int ic, .int jg, .int js]))], [(ja, .inr (6, [.ref jan]))], [(jan, .inl (cy 1, 81, .inl jaf))], [(jb, .inr (6, [.ref jbn]))], [(jbn, .inl (cy 1, 81, .inl jbf))], [(i, .inr (3, [.ref ia, .ref ib, .int ir, .int ik, .int ic, .int ig, .int is]))], [(ia, .inr (6, [.ref ian]))], [(ian, .inl (cy 1, 81, .inl iaf))], [(ib, .inr (6, [.ref ibn]))], [(ibn, .inl (cy 1, 81, .inl ibf))]] rfl rfl dd_X1_copyFrom_0.2.2.2.2.2.2.2.2.2.2.2.1 ?_
  refine xr_aload_n (n := 25) (j := 0) C dd_X1_copyFrom_0.2.2.2.2.2.2.2.2.2.2.2.2.1 rfl rfl ?_
  refine xr_aload_n (n := 26) (j := 1) C dd_X1_copyFrom_0.2.2.2.2.2.2.2.2.2.2.2.2.2.1 rfl rfl ?_
  refine xr_get (n := 29) C 5 rfl rfl 5 (by decide) in_X1 u_119 rfl (v := .int ig) rfl dd_X1_copyFrom_0.2.2.2.2.2.2.2.2.2.2.2.2.2.2.1 rfl ?_
  refine xr_put (n := 32) C 0 rfl rfl 5 (by decide) in_X1 tyX1 tyX1_ok nmX1 u_119 rfl rfl rfl rfl (Nat.le_of_ble_eq_true rfl) [[(j, .inr (3, [.ref ja, .ref jb, .int ir, .int ik, .int ic, .int ig, .int js]))], [(ja, .inr (6, [.ref jan]))], [(jan, .inl (cy 1, 81, .inl jaf))], [(jb, .inr (6, [.ref jbn]))], [(jbn, .inl (cy 1, 81, .inl jbf))], [(i, .inr (3, [.ref ia, .ref ib, .int ir, .int ik, .int ic, .int ig, .int is]))], [(ia, .inr (6, [.ref ian]))], [(ian, .inl (cy 1, 81, .inl iaf))], [(ib, .inr (6, [.ref ibn]))], [(ibn, .inl (cy 1, 81, .inl ibf))]] rfl rfl dd_X1_copyFrom_0.2.2.2.2.2.2.2.2.2.2.2.2.2.2.2.1 ?_
  refine xr_aload_n (n := 33) (j := 0) C dd_X1_copyFrom_1.1 rfl rfl ?_
  refine xr_aload_n (n := 34) (j := 1) C dd_X1_copyFrom_1.2.1 rfl rfl ?_
  refine xr_get (n := 37) C 5 rfl rfl 6 (by decide) in_X1 u_121 rfl (v := .int is) rfl dd_X1_copyFrom_1.2.2.1 rfl ?_
  obtain ⟨g_1, hR⟩ := yf_g hR
  refine xr_put (n := 40) C 0 rfl rfl 6 (by decide) in_X1 tyX1 tyX1_ok nmX1 u_121 rfl rfl (ynz_f g_1) (ynz_n g_1) (Nat.le_of_ble_eq_true rfl) [[(j, .inr (3, [.ref ja, .ref jb, .int ir, .int ik, .int ic, .int ig, .int is]))], [(ja, .inr (6, [.ref jan]))], [(jan, .inl (cy 1, 81, .inl jaf))], [(jb, .inr (6, [.ref jbn]))], [(jbn, .inl (cy 1, 81, .inl jbf))], [(i, .inr (3, [.ref ia, .ref ib, .int ir, .int ik, .int ic, .int ig, .int is]))], [(ia, .inr (6, [.ref ian]))], [(ian, .inl (cy 1, 81, .inl iaf))], [(ib, .inr (6, [.ref ibn]))], [(ibn, .inl (cy 1, 81, .inl ibf))]] rfl rfl dd_X1_copyFrom_1.2.2.2.1 ?_
  refine xr_aload_n (n := 41) (j := 0) C dd_X1_copyFrom_1.2.2.2.2.1 rfl rfl ?_
  refine xr_get (n := 44) C 0 rfl rfl 0 (by decide) in_X1 u_109 rfl (v := .ref ja) rfl dd_X1_copyFrom_1.2.2.2.2.2.1 rfl ?_
  refine xr_aload_n (n := 45) (j := 1) C dd_X1_copyFrom_1.2.2.2.2.2.2.1 rfl rfl ?_
  refine xr_get (n := 48) C 5 rfl rfl 0 (by decide) in_X1 u_109 rfl (v := .ref ia) rfl dd_X1_copyFrom_1.2.2.2.2.2.2.2.1 rfl ?_
  obtain ⟨x_2, hx_2, hR⟩ := yf_b hR
  refine xr_callV (n := 51) (As := [.ref ia]) (rest := []) C (kX4_copyFrom l D cy (h := ja) (hn := jan) (hf := jaf) (h2 := ia) (h2n := ian) (h2f := iaf) hx_2) mX4_copyFrom u_767 u_768 u_769 1 rfl rfl 10 [1, 2, 6, 7] [0, 3, 4, 5, 8, 9] rfl (by decide +kernel) rfl rfl rfl rfl (Nat.le_of_ble_eq_true rfl) (Nat.le_of_ble_eq_true rfl) (Nat.le_of_ble_eq_true rfl) (Nat.le_of_ble_eq_true rfl) (Nat.le_of_ble_eq_true rfl) dd_X1_copyFrom_1.2.2.2.2.2.2.2.2.1 rfl (fun v_3 u_4 hp_5 => ?_)
  obtain ⟨rfl, rfl⟩ := hp_5
  refine xr_perm C 10 [4, 0, 1, 5, 6, 7, 2, 3, 8, 9] [] [[(j, .inr (3, [.ref ja, .ref jb, .int ir, .int ik, .int ic, .int ig, .int is]))], [(ja, .inr (6, [.ref jan]))], [(jan, .inl (cy 1, 81, .inl x_2))], [(jb, .inr (6, [.ref jbn]))], [(jbn, .inl (cy 1, 81, .inl jbf))], [(i, .inr (3, [.ref ia, .ref ib, .int ir, .int ik, .int ic, .int ig, .int is]))], [(ia, .inr (6, [.ref ian]))], [(ian, .inl (cy 1, 81, .inl iaf))], [(ib, .inr (6, [.ref ibn]))], [(ibn, .inl (cy 1, 81, .inl ibf))]] rfl (by decide +kernel) rfl ?_
  refine xr_aload_n (n := 52) (j := 0) C dd_X1_copyFrom_1.2.2.2.2.2.2.2.2.2.1 rfl rfl ?_
  refine xr_get (n := 55) C 0 rfl rfl 1 (by decide) in_X1 u_111 rfl (v := .ref jb) rfl dd_X1_copyFrom_1.2.2.2.2.2.2.2.2.2.2.1 rfl ?_
  refine xr_aload_n (n := 56) (j := 1) C dd_X1_copyFrom_1.2.2.2.2.2.2.2.2.2.2.2.1 rfl rfl ?_
  refine xr_get (n := 59) C 5 rfl rfl 1 (by decide) in_X1 u_111 rfl (v := .ref ib) rfl dd_X1_copyFrom_1.2.2.2.2.2.2.2.2.2.2.2.2.1 rfl ?_
  obtain ⟨x_6, hx_6, hR⟩ := yf_b hR
  refine xr_callV (n := 62) (As := [.ref ib]) (rest := []) C (kX4_copyFrom l D cy (h := jb) (hn := jbn) (hf := jbf) (h2 := ib) (h2n := ibn) (h2f := ibf) hx_6) mX4_copyFrom u_767 u_768 u_769 3 rfl rfl 10 [3, 4, 8, 9] [0, 1, 2, 5, 6, 7] rfl (by decide +kernel) rfl rfl rfl rfl (Nat.le_of_ble_eq_true rfl) (Nat.le_of_ble_eq_true rfl) (Nat.le_of_ble_eq_true rfl) (Nat.le_of_ble_eq_true rfl) (Nat.le_of_ble_eq_true rfl) dd_X1_copyFrom_1.2.2.2.2.2.2.2.2.2.2.2.2.2.1 rfl (fun v_7 u_8 hp_9 => ?_)
  obtain ⟨rfl, rfl⟩ := hp_9
  refine xr_perm C 10 [4, 5, 6, 0, 1, 7, 8, 9, 2, 3] [] [[(j, .inr (3, [.ref ja, .ref jb, .int ir, .int ik, .int ic, .int ig, .int is]))], [(ja, .inr (6, [.ref jan]))], [(jan, .inl (cy 1, 81, .inl x_2))], [(jb, .inr (6, [.ref jbn]))], [(jbn, .inl (cy 1, 81, .inl x_6))], [(i, .inr (3, [.ref ia, .ref ib, .int ir, .int ik, .int ic, .int ig, .int is]))], [(ia, .inr (6, [.ref ian]))], [(ian, .inl (cy 1, 81, .inl iaf))], [(ib, .inr (6, [.ref ibn]))], [(ibn, .inl (cy 1, 81, .inl ibf))]] rfl (by decide +kernel) rfl ?_
  obtain rfl := Option.some.inj hR
  exact ret ⟨rfl, rfl⟩ (Nat.le_of_ble_eq_true rfl) (Nat.le_of_ble_eq_true rfl) dd_X1_copyFrom_1.2.2.2.2.2.2.2.2.2.2.2.2.2.2.1
theorem dd_X1_countOperands_0 : dk_R cX1_countOperands [(0, .iconst 0, 1), (1, .istore_n 1, 1), (2, .iconst 0, 1), (3, .istore_n 2, 1), (4, .iload_n 2, 1), (5, .aload_n 0, 1), (6, .getfield 25, 3), (9, .if_icmp .ge 81, 3), (12, .iconst 0, 1), (13, .istore_n 3, 1), (14, .iload_n 3, 1), (15, .aload_n 0, 1), (16, .getfield 21, 3), (19, .if_icmp .ge 29, 3), (22, .iload_n 1, 1), (23, .aload_n 0, 1)] := dk_use _ _ (by decide +kernel)
theorem dd_X1_countOperands_1 : dk_R cX1_countOperands [(24, .getfield 12, 3), (27, .iload_n 3, 1), (28, .iload_n 2, 1), (29, .invokevirtual 46, 3), (32, .ifCond .ne 7, 3), (35, .iconst 0, 1), (36, .goto 4, 3), (39, .iconst 1, 1), (40, .iadd, 1), (41, .istore_n 1, 1), (42, .iinc 3 1, 3), (45, .goto (-31), 3), (48, .iconst 0, 1), (49, .istore_n 3, 1), (50, .iload_n 3, 1), (51, .aload_n 0, 1)] := dk_use _ _ (by decide +kernel)
theorem dd_X1_countOperands_2 : dk_R cX1_countOperands [(52, .getfield 28, 3), (55, .if_icmp .ge 29, 3), (58, .iload_n 1, 1), (59, .aload_n 0, 1), (60, .getfield 18, 3), (63, .iload_n 2, 1), (64, .iload_n 3, 1), (65, .invokevirtual 46, 3), (68, .ifCond .ne 7, 3), (71, .iconst 0, 1), (72, .goto 4, 3), (75, .iconst 1, 1), (76, .iadd, 1), (77, .istore_n 1, 1), (78, .iinc 3 1, 3), (81, .goto (-31), 3)] := dk_use _ _ (by decide +kernel)
theorem dd_X1_countOperands_3 : dk_R cX1_countOperands [(84, .iinc 2 1, 3), (87, .goto (-83), 3), (90, .iload_n 1, 1), (91, .ireturn, 1)] := dk_use _ _ (by decide +kernel)
def fX1_countOperands (jr : Int32) (jk : Int32) (jc : Int32) (jaf : Nat → Int32) (jbf : Nat → Int32) : Option (Int32) := ((wl (S := Int32 × Int32) (B := Int32 × Int32) (fun s_1 => (if jk ≤ s_1.2 then some (.inr (s_1.1, s_1.2)) else ((wl (S := Int32 × Int32) (B := Int32 × Int32) (fun s_4 => (if jr ≤ s_4.2 then some (.inr (s_4.1, s_4.2)) else ((fX4_get jaf s_4.2 s_1.2).bind fun x_19 => ((((if x_19 = 0 then some 0 else some 1) : Option (Int32))).bind fun r_24 => some (.inl (s_4.1 + r_24, s_4.2 + 1)))))) yFuel (s_1.1, 0)).bind fun b_4 => ((wl (S := Int32 × Int32) (B := Int32 × Int32) (fun s_5 => (if jc ≤ s_5.2 then some (.inr (s_5.1, s_5.2)) else ((fX4_get jbf s_1.2 s_5.2).bind fun x_8 => ((((if x_8 = 0 then some 0 else some 1) : Option (Int32))).bind fun r_13 => some (.inl (s_5.1 + r_13, s_5.2 + 1)))))) yFuel (b_4.1, 0)).bind fun b_5 => some (.inl (b_5.1, s_1.2 + 1)))))) yFuel (0, 0)).bind fun b_1 => some b_1.1)
abbrev hX1_countOperands : Cond := .code yX1_countOperands cX1_countOperands 4 (some .int)
theorem mX1_countOperands : yM yX1_countOperands hX1_countOperands 0 := ⟨u_642, u_58, by decide +kernel, by decide +kernel, by decide +kernel⟩
set_option maxHeartbeats 4000000 in
set_option maxRecDepth 100000 in
theorem kX1_countOperands (l : Launch) (D : va_G) (cy : Nat → ClassId) (j : Nat) (ja : Nat) (jb : Nat) (jr : Int32) (jk : Int32) (jc : Int32) (jg : Int32) (js : Int32) (jan : Nat) (jaf : Nat → Int32) (jbn : Nat) (jbf : Nat → Int32) {res : Int32} (hR : fX1_countOperands jr jk jc jaf jbf = some res) : YM l D cy yX1_countOperands hX1_countOperands 2 0 0 [.ref j] [[(j, .inr (3, [.ref ja, .ref jb, .int jr, .int jk, .int jc, .int jg, .int js]))], [(ja, .inr (6, [.ref jan]))], [(jan, .inl (cy 1, 81, .inl jaf))], [(jb, .inr (6, [.ref jbn]))], [(jbn, .inl (cy 1, 81, .inl jbf))]] (fun v u => v = some (.int res) ∧ u = [[(j, .inr (3, [.ref ja, .ref jb, .int jr, .int jk, .int jc, .int jg, .int js]))], [(ja, .inr (6, [.ref jan]))], [(jan, .inl (cy 1, 81, .inl jaf))], [(jb, .inr (6, [.ref jbn]))], [(jbn, .inl (cy 1, 81, .inl jbf))]]) := by
  unfold fX1_countOperands at hR
  refine YM.ofI (cc := cX1_countOperands) (maxL := 4) (ret := (some .int)) (by decide +kernel) rfl (Nat.le_of_ble_eq_true rfl) [(0, .ref j)] rfl rfl (fun p e s m args below meth c A H0 Q C hnm ret => ?_)
  refine xr_iconst (n := 1) (v := 0) C dd_X1_countOperands_0.1 rfl rfl ?_
  refine xr_istore_n (n := 2) C [(1, .int 0), (0, .ref j)] dd_X1_countOperands_0.2.1 (by decide) rfl rfl ?_
  refine xr_iconst (n := 3) (v := 0) C dd_X1_countOperands_0.2.2.1 rfl rfl ?_
  refine xr_istore_n (n := 4) C [(2, .int 0), (1, .int 0), (0, .ref j)] dd_X1_countOperands_0.2.2.2.1 (by decide) rfl rfl ?_
  refine xr_lv (lv' := [(0, .ref j), (1, .int 0), (2, .int 0)]) [2, 1, 0] rfl ?_
  obtain ⟨b_1, hb_1, hR⟩ := yf_b hR
  have K_1 : X p l e (yR 2 0 0) s m args below meth c D A H0 4 Q [[(j, .inr (3, [.ref ja, .ref jb, .int jr, .int jk, .int jc, .int jg, .int js]))], [(ja, .inr (6, [.ref jan]))], [(jan, .inl (cy 1, 81, .inl jaf))], [(jb, .inr (6, [.ref jbn]))], [(jbn, .inl (cy 1, 81, .inl jbf))]] 0 0 [(1, .int b_1.1)] 90 [] := by
    refine xr_iload_n (n := 91) (j := 0) C dd_X1_countOperands_3.2.2.1 rfl rfl ?_
    obtain rfl := Option.some.inj hR
    exact ret b_1.1 ⟨rfl, rfl⟩ (Nat.le_of_ble_eq_true rfl) (Nat.le_of_ble_eq_true rfl) dd_X1_countOperands_3.2.2.2.1
  refine y_loop (P := fun (s_1 : Int32 × Int32) => X p l e (yR 2 0 0) s m args below meth c D A H0 4 Q [[(j, .inr (3, [.ref ja, .ref jb, .int jr, .int jk, .int jc, .int jg, .int js]))], [(ja, .inr (6, [.ref jan]))], [(jan, .inl (cy 1, 81, .inl jaf))], [(jb, .inr (6, [.ref jbn]))], [(jbn, .inl (cy 1, 81, .inl jbf))]] 0 0 [(0, .ref j), (1, .int s_1.1), (2, .int s_1.2)] 4 []) ?_ _ (0, 0) hb_1
  intro s_1 o_1 ho_1 hk_1 hx_1
  refine xr_iload_n (n := 5) (j := 2) C dd_X1_countOperands_0.2.2.2.2.1 rfl rfl ?_
  refine xr_aload_n (n := 6) (j := 0) C dd_X1_countOperands_0.2.2.2.2.2.1 rfl rfl ?_
  refine xr_get (n := 9) C 0 rfl rfl 3 (by decide) in_X1 u_115 rfl (v := .int jk) rfl dd_X1_countOperands_0.2.2.2.2.2.2.1 rfl ?_
  refine xr_icmp_ge (tgt := 90) (n := 12) C dd_X1_countOperands_0.2.2.2.2.2.2.2.1 rfl rfl (fun c_2 => ?_) (fun c_2 => ?_)
  · replace ho_1 := yf_t c_2 ho_1
    refine xr_lv (lv' := [(1, .int s_1.1)]) [1] rfl ?_
    have e_3 := hx_1 _ (Option.some.inj ho_1).symm
    subst e_3
    exact K_1
  · replace ho_1 := yf_f c_2 ho_1
    refine xr_iconst (n := 13) (v := 0) C dd_X1_countOperands_0.2.2.2.2.2.2.2.2.1 rfl rfl ?_
    refine xr_istore_n (n := 14) C [(3, .int 0), (0, .ref j), (1, .int s_1.1), (2, .int s_1.2)] dd_X1_countOperands_0.2.2.2.2.2.2.2.2.2.1 (by decide) rfl rfl ?_
    refine xr_lv (lv' := [(0, .ref j), (1, .int s_1.1), (2, .int s_1.2), (3, .int 0)]) [1, 2, 3, 0] rfl ?_
    obtain ⟨b_4, hb_4, ho_1⟩ := yf_b ho_1
    have K_4 : X p l e (yR 2 0 0) s m args below meth c D A H0 4 Q [[(j, .inr (3, [.ref ja, .ref jb, .int jr, .int jk, .int jc, .int jg, .int js]))], [(ja, .inr (6, [.ref jan]))], [(jan, .inl (cy 1, 81, .inl jaf))], [(jb, .inr (6, [.ref jbn]))], [(jbn, .inl (cy 1, 81, .inl jbf))]] 0 0 [(0, .ref j), (1, .int b_4.1), (2, .int s_1.2)] 48 [] := by
      refine xr_iconst (n := 49) (v := 0) C dd_X1_countOperands_1.2.2.2.2.2.2.2.2.2.2.2.2.1 rfl rfl ?_
      refine xr_istore_n (n := 50) C [(3, .int 0), (0, .ref j), (1, .int b_4.1), (2, .int s_1.2)] dd_X1_countOperands_1.2.2.2.2.2.2.2.2.2.2.2.2.2.1 (by decide) rfl rfl ?_
      refine xr_lv (lv' := [(0, .ref j), (1, .int b_4.1), (2, .int s_1.2), (3, .int 0)]) [1, 2, 3, 0] rfl ?_
      obtain ⟨b_5, hb_5, ho_1⟩ := yf_b ho_1
      have K_5 : X p l e (yR 2 0 0) s m args below meth c D A H0 4 Q [[(j, .inr (3, [.ref ja, .ref jb, .int jr, .int jk, .int jc, .int jg, .int js]))], [(ja, .inr (6, [.ref jan]))], [(jan, .inl (cy 1, 81, .inl jaf))], [(jb, .inr (6, [.ref jbn]))], [(jbn, .inl (cy 1, 81, .inl jbf))]] 0 0 [(0, .ref j), (1, .int b_5.1), (2, .int s_1.2)] 84 [] := by
        refine xr_iinc (j := 2) (v := s_1.2 + 1) (n := 87) C [(2, .int (s_1.2 + 1)), (0, .ref j), (1, .int b_5.1)] dd_X1_countOperands_3.1 rfl rfl (by decide) rfl rfl ?_
        refine xr_goto (tgt := 4) C dd_X1_countOperands_3.2.1 rfl ?_
        refine xr_lv (lv' := [(0, .ref j), (1, .int b_5.1), (2, .int (s_1.2 + 1))]) [1, 2, 0] rfl ?_
        exact hk_1 (b_5.1, s_1.2 + 1) (Option.some.inj ho_1).symm
      refine y_loop (P := fun (s_5 : Int32 × Int32) => X p l e (yR 2 0 0) s m args below meth c D A H0 4 Q [[(j, .inr (3, [.ref ja, .ref jb, .int jr, .int jk, .int jc, .int jg, .int js]))], [(ja, .inr (6, [.ref jan]))], [(jan, .inl (cy 1, 81, .inl jaf))], [(jb, .inr (6, [.ref jbn]))], [(jbn, .inl (cy 1, 81, .inl jbf))]] 0 0 [(0, .ref j), (1, .int s_5.1), (2, .int s_1.2), (3, .int s_5.2)] 50 []) ?_ _ (b_4.1, 0) hb_5
      intro s_5 o_5 ho_5 hk_5 hx_5
      refine xr_iload_n (n := 51) (j := 3) C dd_X1_countOperands_1.2.2.2.2.2.2.2.2.2.2.2.2.2.2.1 rfl rfl ?_
      refine xr_aload_n (n := 52) (j := 0) C dd_X1_countOperands_1.2.2.2.2.2.2.2.2.2.2.2.2.2.2.2.1 rfl rfl ?_
      refine xr_get (n := 55) C 0 rfl rfl 4 (by decide) in_X1 u_117 rfl (v := .int jc) rfl dd_X1_countOperands_2.1 rfl ?_
      refine xr_icmp_ge (tgt := 84) (n := 58) C dd_X1_countOperands_2.2.1 rfl rfl (fun c_6 => ?_) (fun c_6 => ?_)
      · replace ho_5 := yf_t c_6 ho_5
        refine xr_lv (lv' := [(0, .ref j), (1, .int s_5.1), (2, .int s_1.2)]) [0, 1, 2] rfl ?_
        have e_7 := hx_5 _ (Option.some.inj ho_5).symm
        subst e_7
        exact K_5
      · replace ho_5 := yf_f c_6 ho_5
        refine xr_iload_n (n := 59) (j := 1) C dd_X1_countOperands_2.2.2.1 rfl rfl ?_
        refine xr_aload_n (n := 60) (j := 0) C dd_X1_countOperands_2.2.2.2.1 rfl rfl ?_
        refine xr_get (n := 63) C 0 rfl rfl 1 (by decide) in_X1 u_111 rfl (v := .ref jb) rfl dd_X1_countOperands_2.2.2.2.2.1 rfl ?_
        refine xr_iload_n (n := 64) (j := 2) C dd_X1_countOperands_2.2.2.2.2.2.1 rfl rfl ?_
        refine xr_iload_n (n := 65) (j := 3) C dd_X1_countOperands_2.2.2.2.2.2.2.1 rfl rfl ?_
        obtain ⟨x_8, hx_8, ho_5⟩ := yf_b ho_5
        refine xr_callVp (n := 68) (As := [.int s_1.2, .int s_5.2]) (rest := [.int s_5.1]) C (kX4_get l D cy (h := jb) (hn := jbn) (hf := jbf) (row := s_1.2) (col := s_5.2) hx_8) mX4_get u_340 u_341 u_342 3 rfl rfl 5 [3, 4] [0, 1, 2] rfl (by decide +kernel) rfl rfl rfl rfl (Nat.le_of_ble_eq_true rfl) (Nat.le_of_ble_eq_true rfl) (Nat.le_of_ble_eq_true rfl) (Nat.le_of_ble_eq_true rfl) (Nat.le_of_ble_eq_true rfl) dd_X1_countOperands_2.2.2.2.2.2.2.2.1 rfl (fun _ _ hp => hp.2) (fun v_9 hp_11 => ?_)
        obtain ⟨rfl, -⟩ := hp_11
        refine xr_st (st' := [.int x_8, .int s_5.1]) rfl ?_
        obtain ⟨r_13, hE_13, ho_5⟩ := yf_b ho_5
        have J_13 : X p l e (yR 2 0 0) s m args below meth c D A H0 4 Q [[(j, .inr (3, [.ref ja, .ref jb, .int jr, .int jk, .int jc, .int jg, .int js]))], [(ja, .inr (6, [.ref jan]))], [(jan, .inl (cy 1, 81, .inl jaf))], [(jb, .inr (6, [.ref jbn]))], [(jbn, .inl (cy 1, 81, .inl jbf))]] 0 0 [(0, .ref j), (2, .int s_1.2), (3, .int s_5.2)] 76 [.int r_13, .int s_5.1] := by
          refine xr_iadd (n := 77) C dd_X1_countOperands_2.2.2.2.2.2.2.2.2.2.2.2.2.1 rfl ?_
          refine xr_istore_n (n := 78) C [(1, .int (s_5.1 + r_13)), (0, .ref j), (2, .int s_1.2), (3, .int s_5.2)] dd_X1_countOperands_2.2.2.2.2.2.2.2.2.2.2.2.2.2.1 (by decide) rfl rfl ?_
          refine xr_iinc (j := 3) (v := s_5.2 + 1) (n := 81) C [(3, .int (s_5.2 + 1)), (1, .int (s_5.1 + r_13)), (0, .ref j), (2, .int s_1.2)] dd_X1_countOperands_2.2.2.2.2.2.2.2.2.2.2.2.2.2.2.1 rfl rfl (by decide) rfl rfl ?_
          refine xr_goto (tgt := 50) C dd_X1_countOperands_2.2.2.2.2.2.2.2.2.2.2.2.2.2.2.2.1 rfl ?_
          refine xr_lv (lv' := [(0, .ref j), (1, .int (s_5.1 + r_13)), (2, .int s_1.2), (3, .int (s_5.2 + 1))]) [2, 1, 3, 0] rfl ?_
          exact hk_5 (s_5.1 + r_13, s_5.2 + 1) (Option.some.inj ho_5).symm
        refine xr_if_ne (tgt := 75) (n := 71) C dd_X1_countOperands_2.2.2.2.2.2.2.2.2.1 rfl rfl (fun c_14 => ?_) (fun c_14 => ?_)
        · replace hE_13 := yf_f c_14 hE_13
          refine xr_iconst (n := 76) (v := 1) C dd_X1_countOperands_2.2.2.2.2.2.2.2.2.2.2.2.1 rfl rfl ?_
          refine xr_lv (lv' := [(0, .ref j), (2, .int s_1.2), (3, .int s_5.2)]) [0, 2, 3] rfl ?_
          have e_15 := Option.some.inj hE_13
          subst e_15
          exact J_13
        · replace hE_13 := yf_t c_14 hE_13
          refine xr_iconst (n := 72) (v := 0) C dd_X1_countOperands_2.2.2.2.2.2.2.2.2.2.1 rfl rfl ?_
          refine xr_goto (tgt := 76) C dd_X1_countOperands_2.2.2.2.2.2.2.2.2.2.2.1 rfl ?_
          refine xr_lv (lv' := [(0, .ref j), (2, .int s_1.2), (3, .int s_5.2)]) [0, 2, 3] rfl ?_
          have e_16 := Option.some.inj hE_13
          subst e_16
          exact J_13
    refine y_loop (P := fun (s_4 : Int32 × Int32) => X p l e (yR 2 0 0) s m args below meth c D A H0 4 Q [[(j, .inr (3, [.ref ja, .ref jb, .int jr, .int jk, .int jc, .int jg, .int js]))], [(ja, .inr (6, [.ref jan]))], [(jan, .inl (cy 1, 81, .inl jaf))], [(jb, .inr (6, [.ref jbn]))], [(jbn, .inl (cy 1, 81, .inl jbf))]] 0 0 [(0, .ref j), (1, .int s_4.1), (2, .int s_1.2), (3, .int s_4.2)] 14 []) ?_ _ (s_1.1, 0) hb_4
    intro s_4 o_4 ho_4 hk_4 hx_4
    refine xr_iload_n (n := 15) (j := 3) C dd_X1_countOperands_0.2.2.2.2.2.2.2.2.2.2.1 rfl rfl ?_
    refine xr_aload_n (n := 16) (j := 0) C dd_X1_countOperands_0.2.2.2.2.2.2.2.2.2.2.2.1 rfl rfl ?_
    refine xr_get (n := 19) C 0 rfl rfl 2 (by decide) in_X1 u_113 rfl (v := .int jr) rfl dd_X1_countOperands_0.2.2.2.2.2.2.2.2.2.2.2.2.1 rfl ?_
    refine xr_icmp_ge (tgt := 48) (n := 22) C dd_X1_countOperands_0.2.2.2.2.2.2.2.2.2.2.2.2.2.1 rfl rfl (fun c_17 => ?_) (fun c_17 => ?_)
    · replace ho_4 := yf_t c_17 ho_4
      refine xr_lv (lv' := [(0, .ref j), (1, .int s_4.1), (2, .int s_1.2)]) [0, 1, 2] rfl ?_
      have e_18 := hx_4 _ (Option.some.inj ho_4).symm
      subst e_18
      exact K_4
    · replace ho_4 := yf_f c_17 ho_4
      refine xr_iload_n (n := 23) (j := 1) C dd_X1_countOperands_0.2.2.2.2.2.2.2.2.2.2.2.2.2.2.1 rfl rfl ?_
      refine xr_aload_n (n := 24) (j := 0) C dd_X1_countOperands_0.2.2.2.2.2.2.2.2.2.2.2.2.2.2.2.1 rfl rfl ?_
      refine xr_get (n := 27) C 0 rfl rfl 0 (by decide) in_X1 u_109 rfl (v := .ref ja) rfl dd_X1_countOperands_1.1 rfl ?_
      refine xr_iload_n (n := 28) (j := 3) C dd_X1_countOperands_1.2.1 rfl rfl ?_
      refine xr_iload_n (n := 29) (j := 2) C dd_X1_countOperands_1.2.2.1 rfl rfl ?_
      obtain ⟨x_19, hx_19, ho_4⟩ := yf_b ho_4
      refine xr_callVp (n := 32) (As := [.int s_4.2, .int s_1.2]) (rest := [.int s_4.1]) C (kX4_get l D cy (h := ja) (hn := jan) (hf := jaf) (row := s_4.2) (col := s_1.2) hx_19) mX4_get u_340 u_341 u_342 1 rfl rfl 5 [1, 2] [0, 3, 4] rfl (by decide +kernel) rfl rfl rfl rfl (Nat.le_of_ble_eq_true rfl) (Nat.le_of_ble_eq_true rfl) (Nat.le_of_ble_eq_true rfl) (Nat.le_of_ble_eq_true rfl) (Nat.le_of_ble_eq_true rfl) dd_X1_countOperands_1.2.2.2.1 rfl (fun _ _ hp => hp.2) (fun v_20 hp_22 => ?_)
      obtain ⟨rfl, -⟩ := hp_22
      refine xr_st (st' := [.int x_19, .int s_4.1]) rfl ?_
      obtain ⟨r_24, hE_24, ho_4⟩ := yf_b ho_4
      have J_24 : X p l e (yR 2 0 0) s m args below meth c D A H0 4 Q [[(j, .inr (3, [.ref ja, .ref jb, .int jr, .int jk, .int jc, .int jg, .int js]))], [(ja, .inr (6, [.ref jan]))], [(jan, .inl (cy 1, 81, .inl jaf))], [(jb, .inr (6, [.ref jbn]))], [(jbn, .inl (cy 1, 81, .inl jbf))]] 0 0 [(0, .ref j), (2, .int s_1.2), (3, .int s_4.2)] 40 [.int r_24, .int s_4.1] := by
        refine xr_iadd (n := 41) C dd_X1_countOperands_1.2.2.2.2.2.2.2.2.1 rfl ?_
        refine xr_istore_n (n := 42) C [(1, .int (s_4.1 + r_24)), (0, .ref j), (2, .int s_1.2), (3, .int s_4.2)] dd_X1_countOperands_1.2.2.2.2.2.2.2.2.2.1 (by decide) rfl rfl ?_
        refine xr_iinc (j := 3) (v := s_4.2 + 1) (n := 45) C [(3, .int (s_4.2 + 1)), (1, .int (s_4.1 + r_24)), (0, .ref j), (2, .int s_1.2)] dd_X1_countOperands_1.2.2.2.2.2.2.2.2.2.2.1 rfl rfl (by decide) rfl rfl ?_
        refine xr_goto (tgt := 14) C dd_X1_countOperands_1.2.2.2.2.2.2.2.2.2.2.2.1 rfl ?_
        refine xr_lv (lv' := [(0, .ref j), (1, .int (s_4.1 + r_24)), (2, .int s_1.2), (3, .int (s_4.2 + 1))]) [2, 1, 3, 0] rfl ?_
        exact hk_4 (s_4.1 + r_24, s_4.2 + 1) (Option.some.inj ho_4).symm
      refine xr_if_ne (tgt := 39) (n := 35) C dd_X1_countOperands_1.2.2.2.2.1 rfl rfl (fun c_25 => ?_) (fun c_25 => ?_)
      · replace hE_24 := yf_f c_25 hE_24
        refine xr_iconst (n := 40) (v := 1) C dd_X1_countOperands_1.2.2.2.2.2.2.2.1 rfl rfl ?_
        refine xr_lv (lv' := [(0, .ref j), (2, .int s_1.2), (3, .int s_4.2)]) [0, 2, 3] rfl ?_
        have e_26 := Option.some.inj hE_24
        subst e_26
        exact J_24
      · replace hE_24 := yf_t c_25 hE_24
        refine xr_iconst (n := 36) (v := 0) C dd_X1_countOperands_1.2.2.2.2.2.1 rfl rfl ?_
        refine xr_goto (tgt := 40) C dd_X1_countOperands_1.2.2.2.2.2.2.1 rfl ?_
        refine xr_lv (lv' := [(0, .ref j), (2, .int s_1.2), (3, .int s_4.2)]) [0, 2, 3] rfl ?_
        have e_27 := Option.some.inj hE_24
        subst e_27
        exact J_24
theorem dd_X1_leftOperand_0 : dk_R cX1_leftOperand [(0, .iload_n 1, 1), (1, .aload_n 0, 1), (2, .getfield 21, 3), (5, .if_icmp .ge 13, 3), (8, .aload_n 0, 1), (9, .getfield 12, 3), (12, .iload_n 1, 1), (13, .iload_n 2, 1), (14, .invokevirtual 46, 3), (17, .ireturn, 1), (18, .iconst 0, 1), (19, .istore_n 3, 1), (20, .iconst 0, 1), (21, .istore 4, 2), (23, .iload 4, 2), (25, .aload_n 0, 1)] := dk_use _ _ (by decide +kernel)
theorem dd_X1_leftOperand_1 : dk_R cX1_leftOperand [(26, .getfield 21, 3), (29, .if_icmp .ge 22, 3), (32, .iload_n 3, 1), (33, .aload_n 0, 1), (34, .getfield 12, 3), (37, .iload 4, 2), (39, .iload_n 2, 1), (40, .invokevirtual 46, 3), (43, .iadd, 1), (44, .istore_n 3, 1), (45, .iinc 4 1, 3), (48, .goto (-25), 3), (51, .iload_n 3, 1), (52, .ireturn, 1)] := dk_use _ _ (by decide +kernel)
def fX1_leftOperand (jr : Int32) (jaf : Nat → Int32) (i1 : Int32) (i2 : Int32) : Option (Int32) := (if jr ≤ i1 then ((wl (S := Int32 × Int32) (B := Int32 × Int32) (fun s_2 => (if jr ≤ s_2.2 then some (.inr (s_2.1, s_2.2)) else ((fX4_get jaf s_2.2 i2).bind fun x_5 => some (.inl (s_2.1 + x_5, s_2.2 + 1))))) yFuel (0, 0)).bind fun b_2 => some b_2.1) else ((fX4_get jaf i1 i2).bind fun x_9 => some x_9))
abbrev hX1_leftOperand : Cond := .code yX1_leftOperand cX1_leftOperand 5 (some .int)
theorem mX1_leftOperand : yM yX1_leftOperand hX1_leftOperand 2 := ⟨u_535, u_58, by decide +kernel, by decide +kernel, by decide +kernel⟩
set_option maxHeartbeats 4000000 in
set_option maxRecDepth 100000 in
theorem kX1_leftOperand (l : Launch) (D : va_G) (cy : Nat → ClassId) (j : Nat) (ja : Nat) (jb : Nat) (jr : Int32) (jk : Int32) (jc : Int32) (jg : Int32) (js : Int32) (jan : Nat) (jaf : Nat → Int32) (i1 : Int32) (i2 : Int32) {res : Int32} (hR : fX1_leftOperand jr jaf i1 i2 = some res) : YM l D cy yX1_leftOperand hX1_leftOperand 2 0 0 [.ref j, .int i1, .int i2] [[(j, .inr (3, [.ref ja, .ref jb, .int jr, .int jk, .int jc, .int jg, .int js]))], [(ja, .inr (6, [.ref jan]))], [(jan, .inl (cy 1, 81, .inl jaf))]] (fun v u => v = some (.int res) ∧ u = [[(j, .inr (3, [.ref ja, .ref jb, .int jr, .int jk, .int jc, .int jg, .int js]))], [(ja, .inr (6, [.ref jan]))], [(jan, .inl (cy 1, 81, .inl jaf))]]) := by
  unfold fX1_leftOperand at hR
  refine YM.ofI (cc := cX1_leftOperand) (maxL := 5) (ret := (some .int)) (by decide +kernel) rfl (Nat.le_of_ble_eq_true rfl) [(0, .ref j), (1, .int i1), (2, .int i2)] rfl rfl (fun p e s m args below meth c A H0 Q C hnm ret => ?_)
  refine xr_iload_n (n := 1) (j := 1) C dd_X1_leftOperand_0.1 rfl rfl ?_
  refine xr_aload_n (n := 2) (j := 0) C dd_X1_leftOperand_0.2.1 rfl rfl ?_
  refine xr_get (n := 5) C 0 rfl rfl 2 (by decide) in_X1 u_113 rfl (v := .int jr) rfl dd_X1_leftOperand_0.2.2.1 rfl ?_
  refine xr_icmp_ge (tgt := 18) (n := 8) C dd_X1_leftOperand_0.2.2.2.1 rfl rfl (fun c_1 => ?_) (fun c_1 => ?_)
  · replace hR := yf_t c_1 hR
    refine xr_iconst (n := 19) (v := 0) C dd_X1_leftOperand_0.2.2.2.2.2.2.2.2.2.2.1 rfl rfl ?_
    refine xr_istore_n (n := 20) C [(3, .int 0), (0, .ref j), (1, .int i1), (2, .int i2)] dd_X1_leftOperand_0.2.2.2.2.2.2.2.2.2.2.2.1 (by decide) rfl rfl ?_
    refine xr_iconst (n := 21) (v := 0) C dd_X1_leftOperand_0.2.2.2.2.2.2.2.2.2.2.2.2.1 rfl rfl ?_
    refine xr_istore (n := 23) C [(4, .int 0), (3, .int 0), (0, .ref j), (1, .int i1), (2, .int i2)] dd_X1_leftOperand_0.2.2.2.2.2.2.2.2.2.2.2.2.2.1 (by decide) rfl rfl ?_
    refine xr_lv (lv' := [(0, .ref j), (2, .int i2), (3, .int 0), (4, .int 0)]) [2, 4, 1, 0] rfl ?_
    obtain ⟨b_2, hb_2, hR⟩ := yf_b hR
    have K_2 : X p l e (yR 2 0 0) s m args below meth c D A H0 5 Q [[(j, .inr (3, [.ref ja, .ref jb, .int jr, .int jk, .int jc, .int jg, .int js]))], [(ja, .inr (6, [.ref jan]))], [(jan, .inl (cy 1, 81, .inl jaf))]] 0 0 [(3, .int b_2.1)] 51 [] := by
      refine xr_iload_n (n := 52) (j := 0) C dd_X1_leftOperand_1.2.2.2.2.2.2.2.2.2.2.2.2.1 rfl rfl ?_
      obtain rfl := Option.some.inj hR
      exact ret b_2.1 ⟨rfl, rfl⟩ (Nat.le_of_ble_eq_true rfl) (Nat.le_of_ble_eq_true rfl) dd_X1_leftOperand_1.2.2.2.2.2.2.2.2.2.2.2.2.2.1
    refine y_loop (P := fun (s_2 : Int32 × Int32) => X p l e (yR 2 0 0) s m args below meth c D A H0 5 Q [[(j, .inr (3, [.ref ja, .ref jb, .int jr, .int jk, .int jc, .int jg, .int js]))], [(ja, .inr (6, [.ref jan]))], [(jan, .inl (cy 1, 81, .inl jaf))]] 0 0 [(0, .ref j), (2, .int i2), (3, .int s_2.1), (4, .int s_2.2)] 23 []) ?_ _ (0, 0) hb_2
    intro s_2 o_2 ho_2 hk_2 hx_2
    refine xr_iload (n := 25) (j := 3) C dd_X1_leftOperand_0.2.2.2.2.2.2.2.2.2.2.2.2.2.2.1 rfl rfl ?_
    refine xr_aload_n (n := 26) (j := 0) C dd_X1_leftOperand_0.2.2.2.2.2.2.2.2.2.2.2.2.2.2.2.1 rfl rfl ?_
    refine xr_get (n := 29) C 0 rfl rfl 2 (by decide) in_X1 u_113 rfl (v := .int jr) rfl dd_X1_leftOperand_1.1 rfl ?_
    refine xr_icmp_ge (tgt := 51) (n := 32) C dd_X1_leftOperand_1.2.1 rfl rfl (fun c_3 => ?_) (fun c_3 => ?_)
    · replace ho_2 := yf_t c_3 ho_2
      refine xr_lv (lv' := [(3, .int s_2.1)]) [2] rfl ?_
      have e_4 := hx_2 _ (Option.some.inj ho_2).symm
      subst e_4
      exact K_2
    · replace ho_2 := yf_f c_3 ho_2
      refine xr_iload_n (n := 33) (j := 2) C dd_X1_leftOperand_1.2.2.1 rfl rfl ?_
      refine xr_aload_n (n := 34) (j := 0) C dd_X1_leftOperand_1.2.2.2.1 rfl rfl ?_
      refine xr_get (n := 37) C 0 rfl rfl 0 (by decide) in_X1 u_109 rfl (v := .ref ja) rfl dd_X1_leftOperand_1.2.2.2.2.1 rfl ?_
      refine xr_iload (n := 39) (j := 3) C dd_X1_leftOperand_1.2.2.2.2.2.1 rfl rfl ?_
      refine xr_iload_n (n := 40) (j := 1) C dd_X1_leftOperand_1.2.2.2.2.2.2.1 rfl rfl ?_
      obtain ⟨x_5, hx_5, ho_2⟩ := yf_b ho_2
      refine xr_callVp (n := 43) (As := [.int s_2.2, .int i2]) (rest := [.int s_2.1]) C (kX4_get l D cy (h := ja) (hn := jan) (hf := jaf) (row := s_2.2) (col := i2) hx_5) mX4_get u_340 u_341 u_342 1 rfl rfl 3 [1, 2] [0] rfl (by decide +kernel) rfl rfl rfl rfl (Nat.le_of_ble_eq_true rfl) (Nat.le_of_ble_eq_true rfl) (Nat.le_of_ble_eq_true rfl) (Nat.le_of_ble_eq_true rfl) (Nat.le_of_ble_eq_true rfl) dd_X1_leftOperand_1.2.2.2.2.2.2.2.1 rfl (fun _ _ hp => hp.2) (fun v_6 hp_8 => ?_)
      obtain ⟨rfl, -⟩ := hp_8
      refine xr_st (st' := [.int x_5, .int s_2.1]) rfl ?_
      refine xr_iadd (n := 44) C dd_X1_leftOperand_1.2.2.2.2.2.2.2.2.1 rfl ?_
      refine xr_istore_n (n := 45) C [(3, .int (s_2.1 + x_5)), (0, .ref j), (2, .int i2), (4, .int s_2.2)] dd_X1_leftOperand_1.2.2.2.2.2.2.2.2.2.1 (by decide) rfl rfl ?_
      refine xr_iinc (j := 3) (v := s_2.2 + 1) (n := 48) C [(4, .int (s_2.2 + 1)), (3, .int (s_2.1 + x_5)), (0, .ref j), (2, .int i2)] dd_X1_leftOperand_1.2.2.2.2.2.2.2.2.2.2.1 rfl rfl (by decide) rfl rfl ?_
      refine xr_goto (tgt := 23) C dd_X1_leftOperand_1.2.2.2.2.2.2.2.2.2.2.2.1 rfl ?_
      refine xr_lv (lv' := [(0, .ref j), (2, .int i2), (3, .int (s_2.1 + x_5)), (4, .int (s_2.2 + 1))]) [2, 3, 1, 0] rfl ?_
      exact hk_2 (s_2.1 + x_5, s_2.2 + 1) (Option.some.inj ho_2).symm
  · replace hR := yf_f c_1 hR
    refine xr_aload_n (n := 9) (j := 0) C dd_X1_leftOperand_0.2.2.2.2.1 rfl rfl ?_
    refine xr_get (n := 12) C 0 rfl rfl 0 (by decide) in_X1 u_109 rfl (v := .ref ja) rfl dd_X1_leftOperand_0.2.2.2.2.2.1 rfl ?_
    refine xr_iload_n (n := 13) (j := 1) C dd_X1_leftOperand_0.2.2.2.2.2.2.1 rfl rfl ?_
    refine xr_iload_n (n := 14) (j := 2) C dd_X1_leftOperand_0.2.2.2.2.2.2.2.1 rfl rfl ?_
    obtain ⟨x_9, hx_9, hR⟩ := yf_b hR
    refine xr_callVp (n := 17) (As := [.int i1, .int i2]) (rest := []) C (kX4_get l D cy (h := ja) (hn := jan) (hf := jaf) (row := i1) (col := i2) hx_9) mX4_get u_340 u_341 u_342 1 rfl rfl 3 [1, 2] [0] rfl (by decide +kernel) rfl rfl rfl rfl (Nat.le_of_ble_eq_true rfl) (Nat.le_of_ble_eq_true rfl) (Nat.le_of_ble_eq_true rfl) (Nat.le_of_ble_eq_true rfl) (Nat.le_of_ble_eq_true rfl) dd_X1_leftOperand_0.2.2.2.2.2.2.2.2.1 rfl (fun _ _ hp => hp.2) (fun v_10 hp_12 => ?_)
    obtain ⟨rfl, -⟩ := hp_12
    refine xr_st (st' := [.int x_9]) rfl ?_
    obtain rfl := Option.some.inj hR
    exact ret x_9 ⟨rfl, rfl⟩ (Nat.le_of_ble_eq_true rfl) (Nat.le_of_ble_eq_true rfl) dd_X1_leftOperand_0.2.2.2.2.2.2.2.2.2.1
theorem dd_X1_topOperand_0 : dk_R cX1_topOperand [(0, .iload_n 2, 1), (1, .aload_n 0, 1), (2, .getfield 28, 3), (5, .if_icmp .ge 13, 3), (8, .aload_n 0, 1), (9, .getfield 18, 3), (12, .iload_n 1, 1), (13, .iload_n 2, 1), (14, .invokevirtual 46, 3), (17, .ireturn, 1), (18, .iconst 0, 1), (19, .istore_n 3, 1), (20, .iconst 0, 1), (21, .istore 4, 2), (23, .iload 4, 2), (25, .aload_n 0, 1)] := dk_use _ _ (by decide +kernel)
theorem dd_X1_topOperand_1 : dk_R cX1_topOperand [(26, .getfield 28, 3), (29, .if_icmp .ge 22, 3), (32, .iload_n 3, 1), (33, .aload_n 0, 1), (34, .getfield 18, 3), (37, .iload_n 1, 1), (38, .iload 4, 2), (40, .invokevirtual 46, 3), (43, .iadd, 1), (44, .istore_n 3, 1), (45, .iinc 4 1, 3), (48, .goto (-25), 3), (51, .iload_n 3, 1), (52, .ireturn, 1)] := dk_use _ _ (by decide +kernel)
def fX1_topOperand (jc : Int32) (jbf : Nat → Int32) (i1 : Int32) (i2 : Int32) : Option (Int32) := (if jc ≤ i2 then ((wl (S := Int32 × Int32) (B := Int32 × Int32) (fun s_2 => (if jc ≤ s_2.2 then some (.inr (s_2.1, s_2.2)) else ((fX4_get jbf i1 s_2.2).bind fun x_5 => some (.inl (s_2.1 + x_5, s_2.2 + 1))))) yFuel (0, 0)).bind fun b_2 => some b_2.1) else ((fX4_get jbf i1 i2).bind fun x_9 => some x_9))
abbrev hX1_topOperand : Cond := .code yX1_topOperand cX1_topOperand 5 (some .int)
theorem mX1_topOperand : yM yX1_topOperand hX1_topOperand 2 := ⟨u_539, u_58, by decide +kernel, by decide +kernel, by decide +kernel⟩
set_option maxHeartbeats 4000000 in
set_option maxRecDepth 100000 in
theorem kX1_topOperand (l : Launch) (D : va_G) (cy : Nat → ClassId) (j : Nat) (ja : Nat) (jb : Nat) (jr : Int32) (jk : Int32) (jc : Int32) (jg : Int32) (js : Int32) (jbn : Nat) (jbf : Nat → Int32) (i1 : Int32) (i2 : Int32) {res : Int32} (hR : fX1_topOperand jc jbf i1 i2 = some res) : YM l D cy yX1_topOperand hX1_topOperand 2 0 0 [.ref j, .int i1, .int i2] [[(j, .inr (3, [.ref ja, .ref jb, .int jr, .int jk, .int jc, .int jg, .int js]))], [(jb, .inr (6, [.ref jbn]))], [(jbn, .inl (cy 1, 81, .inl jbf))]] (fun v u => v = some (.int res) ∧ u = [[(j, .inr (3, [.ref ja, .ref jb, .int jr, .int jk, .int jc, .int jg, .int js]))], [(jb, .inr (6, [.ref jbn]))], [(jbn, .inl (cy 1, 81, .inl jbf))]]) := by
  unfold fX1_topOperand at hR
  refine YM.ofI (cc := cX1_topOperand) (maxL := 5) (ret := (some .int)) (by decide +kernel) rfl (Nat.le_of_ble_eq_true rfl) [(0, .ref j), (1, .int i1), (2, .int i2)] rfl rfl (fun p e s m args below meth c A H0 Q C hnm ret => ?_)
  refine xr_iload_n (n := 1) (j := 2) C dd_X1_topOperand_0.1 rfl rfl ?_
  refine xr_aload_n (n := 2) (j := 0) C dd_X1_topOperand_0.2.1 rfl rfl ?_
  refine xr_get (n := 5) C 0 rfl rfl 4 (by decide) in_X1 u_117 rfl (v := .int jc) rfl dd_X1_topOperand_0.2.2.1 rfl ?_
  refine xr_icmp_ge (tgt := 18) (n := 8) C dd_X1_topOperand_0.2.2.2.1 rfl rfl (fun c_1 => ?_) (fun c_1 => ?_)
  · replace hR := yf_t c_1 hR
    refine xr_iconst (n := 19) (v := 0) C dd_X1_topOperand_0.2.2.2.2.2.2.2.2.2.2.1 rfl rfl ?_
    refine xr_istore_n (n := 20) C [(3, .int 0), (0, .ref j), (1, .int i1), (2, .int i2)] dd_X1_topOperand_0.2.2.2.2.2.2.2.2.2.2.2.1 (by decide) rfl rfl ?_
    refine xr_iconst (n := 21) (v := 0) C dd_X1_topOperand_0.2.2.2.2.2.2.2.2.2.2.2.2.1 rfl rfl ?_
    refine xr_istore (n := 23) C [(4, .int 0), (3, .int 0), (0, .ref j), (1, .int i1), (2, .int i2)] dd_X1_topOperand_0.2.2.2.2.2.2.2.2.2.2.2.2.2.1 (by decide) rfl rfl ?_
    refine xr_lv (lv' := [(0, .ref j), (1, .int i1), (3, .int 0), (4, .int 0)]) [2, 3, 1, 0] rfl ?_
    obtain ⟨b_2, hb_2, hR⟩ := yf_b hR
    have K_2 : X p l e (yR 2 0 0) s m args below meth c D A H0 5 Q [[(j, .inr (3, [.ref ja, .ref jb, .int jr, .int jk, .int jc, .int jg, .int js]))], [(jb, .inr (6, [.ref jbn]))], [(jbn, .inl (cy 1, 81, .inl jbf))]] 0 0 [(3, .int b_2.1)] 51 [] := by
      refine xr_iload_n (n := 52) (j := 0) C dd_X1_topOperand_1.2.2.2.2.2.2.2.2.2.2.2.2.1 rfl rfl ?_
      obtain rfl := Option.some.inj hR
      exact ret b_2.1 ⟨rfl, rfl⟩ (Nat.le_of_ble_eq_true rfl) (Nat.le_of_ble_eq_true rfl) dd_X1_topOperand_1.2.2.2.2.2.2.2.2.2.2.2.2.2.1
    refine y_loop (P := fun (s_2 : Int32 × Int32) => X p l e (yR 2 0 0) s m args below meth c D A H0 5 Q [[(j, .inr (3, [.ref ja, .ref jb, .int jr, .int jk, .int jc, .int jg, .int js]))], [(jb, .inr (6, [.ref jbn]))], [(jbn, .inl (cy 1, 81, .inl jbf))]] 0 0 [(0, .ref j), (1, .int i1), (3, .int s_2.1), (4, .int s_2.2)] 23 []) ?_ _ (0, 0) hb_2
    intro s_2 o_2 ho_2 hk_2 hx_2
    refine xr_iload (n := 25) (j := 3) C dd_X1_topOperand_0.2.2.2.2.2.2.2.2.2.2.2.2.2.2.1 rfl rfl ?_
    refine xr_aload_n (n := 26) (j := 0) C dd_X1_topOperand_0.2.2.2.2.2.2.2.2.2.2.2.2.2.2.2.1 rfl rfl ?_
    refine xr_get (n := 29) C 0 rfl rfl 4 (by decide) in_X1 u_117 rfl (v := .int jc) rfl dd_X1_topOperand_1.1 rfl ?_
    refine xr_icmp_ge (tgt := 51) (n := 32) C dd_X1_topOperand_1.2.1 rfl rfl (fun c_3 => ?_) (fun c_3 => ?_)
    · replace ho_2 := yf_t c_3 ho_2
      refine xr_lv (lv' := [(3, .int s_2.1)]) [2] rfl ?_
      have e_4 := hx_2 _ (Option.some.inj ho_2).symm
      subst e_4
      exact K_2
    · replace ho_2 := yf_f c_3 ho_2
      refine xr_iload_n (n := 33) (j := 2) C dd_X1_topOperand_1.2.2.1 rfl rfl ?_
      refine xr_aload_n (n := 34) (j := 0) C dd_X1_topOperand_1.2.2.2.1 rfl rfl ?_
      refine xr_get (n := 37) C 0 rfl rfl 1 (by decide) in_X1 u_111 rfl (v := .ref jb) rfl dd_X1_topOperand_1.2.2.2.2.1 rfl ?_
      refine xr_iload_n (n := 38) (j := 1) C dd_X1_topOperand_1.2.2.2.2.2.1 rfl rfl ?_
      refine xr_iload (n := 40) (j := 3) C dd_X1_topOperand_1.2.2.2.2.2.2.1 rfl rfl ?_
      obtain ⟨x_5, hx_5, ho_2⟩ := yf_b ho_2
      refine xr_callVp (n := 43) (As := [.int i1, .int s_2.2]) (rest := [.int s_2.1]) C (kX4_get l D cy (h := jb) (hn := jbn) (hf := jbf) (row := i1) (col := s_2.2) hx_5) mX4_get u_340 u_341 u_342 1 rfl rfl 3 [1, 2] [0] rfl (by decide +kernel) rfl rfl rfl rfl (Nat.le_of_ble_eq_true rfl) (Nat.le_of_ble_eq_true rfl) (Nat.le_of_ble_eq_true rfl) (Nat.le_of_ble_eq_true rfl) (Nat.le_of_ble_eq_true rfl) dd_X1_topOperand_1.2.2.2.2.2.2.2.1 rfl (fun _ _ hp => hp.2) (fun v_6 hp_8 => ?_)
      obtain ⟨rfl, -⟩ := hp_8
      refine xr_st (st' := [.int x_5, .int s_2.1]) rfl ?_
      refine xr_iadd (n := 44) C dd_X1_topOperand_1.2.2.2.2.2.2.2.2.1 rfl ?_
      refine xr_istore_n (n := 45) C [(3, .int (s_2.1 + x_5)), (0, .ref j), (1, .int i1), (4, .int s_2.2)] dd_X1_topOperand_1.2.2.2.2.2.2.2.2.2.1 (by decide) rfl rfl ?_
      refine xr_iinc (j := 3) (v := s_2.2 + 1) (n := 48) C [(4, .int (s_2.2 + 1)), (3, .int (s_2.1 + x_5)), (0, .ref j), (1, .int i1)] dd_X1_topOperand_1.2.2.2.2.2.2.2.2.2.2.1 rfl rfl (by decide) rfl rfl ?_
      refine xr_goto (tgt := 23) C dd_X1_topOperand_1.2.2.2.2.2.2.2.2.2.2.2.1 rfl ?_
      refine xr_lv (lv' := [(0, .ref j), (1, .int i1), (3, .int (s_2.1 + x_5)), (4, .int (s_2.2 + 1))]) [2, 3, 1, 0] rfl ?_
      exact hk_2 (s_2.1 + x_5, s_2.2 + 1) (Option.some.inj ho_2).symm
  · replace hR := yf_f c_1 hR
    refine xr_aload_n (n := 9) (j := 0) C dd_X1_topOperand_0.2.2.2.2.1 rfl rfl ?_
    refine xr_get (n := 12) C 0 rfl rfl 1 (by decide) in_X1 u_111 rfl (v := .ref jb) rfl dd_X1_topOperand_0.2.2.2.2.2.1 rfl ?_
    refine xr_iload_n (n := 13) (j := 1) C dd_X1_topOperand_0.2.2.2.2.2.2.1 rfl rfl ?_
    refine xr_iload_n (n := 14) (j := 2) C dd_X1_topOperand_0.2.2.2.2.2.2.2.1 rfl rfl ?_
    obtain ⟨x_9, hx_9, hR⟩ := yf_b hR
    refine xr_callVp (n := 17) (As := [.int i1, .int i2]) (rest := []) C (kX4_get l D cy (h := jb) (hn := jbn) (hf := jbf) (row := i1) (col := i2) hx_9) mX4_get u_340 u_341 u_342 1 rfl rfl 3 [1, 2] [0] rfl (by decide +kernel) rfl rfl rfl rfl (Nat.le_of_ble_eq_true rfl) (Nat.le_of_ble_eq_true rfl) (Nat.le_of_ble_eq_true rfl) (Nat.le_of_ble_eq_true rfl) (Nat.le_of_ble_eq_true rfl) dd_X1_topOperand_0.2.2.2.2.2.2.2.2.1 rfl (fun _ _ hp => hp.2) (fun v_10 hp_12 => ?_)
    obtain ⟨rfl, -⟩ := hp_12
    refine xr_st (st' := [.int x_9]) rfl ?_
    obtain rfl := Option.some.inj hR
    exact ret x_9 ⟨rfl, rfl⟩ (Nat.le_of_ble_eq_true rfl) (Nat.le_of_ble_eq_true rfl) dd_X1_topOperand_0.2.2.2.2.2.2.2.2.2.1
theorem dX1_firstSum_4 : decode cX1_firstSum 4 = .ok (.lookupswitch 36 #[(1, 28), (2, 32)], 28) := by decide +kernel
theorem dd_X1_firstSum_0 : dk_R cX1_firstSum [(0, .aload_n 0, 1), (1, .getfield 31, 3), (32, .sipush 999, 3), (35, .ireturn, 1), (36, .sipush (-999), 3), (39, .ireturn, 1), (40, .iconst 0, 1), (41, .ireturn, 1)] := dk_use _ _ (by decide +kernel)
def fX1_firstSum (jg : Int32) : Option (Int32) := (if jg = 1 then some 999 else (if jg = 2 then some (-999) else some 0))
abbrev hX1_firstSum : Cond := .code yX1_firstSum cX1_firstSum 1 (some .int)
theorem mX1_firstSum : yM yX1_firstSum hX1_firstSum 0 := ⟨u_527, u_58, by decide +kernel, by decide +kernel, by decide +kernel⟩
set_option maxHeartbeats 4000000 in
set_option maxRecDepth 100000 in
theorem kX1_firstSum (l : Launch) (D : va_G) (cy : Nat → ClassId) (j : Nat) (ja : Nat) (jb : Nat) (jr : Int32) (jk : Int32) (jc : Int32) (jg : Int32) (js : Int32) {res : Int32} (hR : fX1_firstSum jg = some res) : YM l D cy yX1_firstSum hX1_firstSum 1 0 0 [.ref j] [[(j, .inr (3, [.ref ja, .ref jb, .int jr, .int jk, .int jc, .int jg, .int js]))]] (fun v u => v = some (.int res) ∧ u = [[(j, .inr (3, [.ref ja, .ref jb, .int jr, .int jk, .int jc, .int jg, .int js]))]]) := by
  unfold fX1_firstSum at hR
  refine YM.ofI (cc := cX1_firstSum) (maxL := 1) (ret := (some .int)) (by decide +kernel) rfl (Nat.le_of_ble_eq_true rfl) [(0, .ref j)] rfl rfl (fun p e s m args below meth c A H0 Q C hnm ret => ?_)
  refine xr_aload_n (n := 1) (j := 0) C dd_X1_firstSum_0.1 rfl rfl ?_
  refine xr_get (n := 4) C 0 rfl rfl 5 (by decide) in_X1 u_119 rfl (v := .int jg) rfl dd_X1_firstSum_0.2.1 rfl ?_
  by_cases c_1 : jg = 1
  · replace hR := yf_t c_1 hR
    refine xr_lookup (off := 28) (tgt := 32) C dX1_firstSum_4 (by decide) (by rw [c_1]; decide) rfl ?_
    refine xr_sipush (n := 35) (v := 999) C dd_X1_firstSum_0.2.2.1 rfl rfl ?_
    obtain rfl := Option.some.inj hR
    exact ret 999 ⟨rfl, rfl⟩ (Nat.le_of_ble_eq_true rfl) (Nat.le_of_ble_eq_true rfl) dd_X1_firstSum_0.2.2.2.1
  replace hR := yf_f c_1 hR
  by_cases c_2 : jg = 2
  · replace hR := yf_t c_2 hR
    refine xr_lookup (off := 32) (tgt := 36) C dX1_firstSum_4 (by decide) (by rw [c_2]; decide) rfl ?_
    refine xr_sipush (n := 39) (v := -999) C dd_X1_firstSum_0.2.2.2.2.1 rfl rfl ?_
    obtain rfl := Option.some.inj hR
    exact ret (-999) ⟨rfl, rfl⟩ (Nat.le_of_ble_eq_true rfl) (Nat.le_of_ble_eq_true rfl) dd_X1_firstSum_0.2.2.2.2.2.1
  replace hR := yf_f c_2 hR
  refine xr_lookup (off := 36) (tgt := 40) C dX1_firstSum_4 (by decide) ((lv_osw c_1 (by decide)).trans ((lv_osw c_2 (by decide)).trans rfl)) rfl ?_
  refine xr_iconst (n := 41) (v := 0) C dd_X1_firstSum_0.2.2.2.2.2.2.1 rfl rfl ?_
  obtain rfl := Option.some.inj hR
  exact ret 0 ⟨rfl, rfl⟩ (Nat.le_of_ble_eq_true rfl) (Nat.le_of_ble_eq_true rfl) dd_X1_firstSum_0.2.2.2.2.2.2.2.1
theorem dX1_bringIn_21 : decode cX1_bringIn 21 = .ok (.lookupswitch 49 #[(1, 27), (2, 37)], 27) := by decide +kernel
theorem dd_X1_bringIn_0 : dk_R cX1_bringIn [(0, .aload_n 0, 1), (1, .iload_n 2, 1), (2, .iload_n 3, 1), (3, .invokevirtual 50, 3), (6, .istore 5, 2), (8, .aload_n 0, 1), (9, .iload_n 3, 1), (10, .iload 4, 2), (12, .invokevirtual 53, 3), (15, .istore 6, 2), (17, .aload_n 0, 1), (18, .getfield 31, 3), (48, .iload_n 1, 1), (49, .iload 5, 2), (51, .iload 6, 2), (53, .iadd, 1)] := dk_use _ _ (by decide +kernel)
theorem dd_X1_bringIn_1 : dk_R cX1_bringIn [(54, .invokestatic 56, 3), (57, .ireturn, 1), (58, .iload_n 1, 1), (59, .iload 5, 2), (61, .iload 6, 2), (63, .invokestatic 56, 3), (66, .invokestatic 61, 3), (69, .ireturn, 1), (70, .iload_n 1, 1), (71, .iload 5, 2), (73, .iload 6, 2), (75, .imul, 1), (76, .iadd, 1), (77, .ireturn, 1)] := dk_use _ _ (by decide +kernel)
def fX1_bringIn (jr : Int32) (jc : Int32) (jg : Int32) (jaf : Nat → Int32) (jbf : Nat → Int32) (i0 : Int32) (i1 : Int32) (it : Int32) (i2 : Int32) : Option (Int32) := ((fX1_leftOperand jr jaf i1 it).bind fun x_1 => ((fX1_topOperand jc jbf it i2).bind fun x_5 => (if jg = 1 then some (xn_min i0 (x_1 + x_5)) else (if jg = 2 then some (xn_max i0 (xn_min x_1 x_5)) else some (i0 + (x_1 * x_5))))))
abbrev hX1_bringIn : Cond := .code yX1_bringIn cX1_bringIn 7 (some .int)
theorem mX1_bringIn : yM yX1_bringIn hX1_bringIn 4 := ⟨u_531, u_58, by decide +kernel, by decide +kernel, by decide +kernel⟩
set_option maxHeartbeats 4000000 in
set_option maxRecDepth 100000 in
theorem kX1_bringIn (l : Launch) (D : va_G) (cy : Nat → ClassId) (j : Nat) (ja : Nat) (jb : Nat) (jr : Int32) (jk : Int32) (jc : Int32) (jg : Int32) (js : Int32) (jan : Nat) (jaf : Nat → Int32) (jbn : Nat) (jbf : Nat → Int32) (i0 : Int32) (i1 : Int32) (it : Int32) (i2 : Int32) {res : Int32} (hR : fX1_bringIn jr jc jg jaf jbf i0 i1 it i2 = some res) : YM l D cy yX1_bringIn hX1_bringIn 3 0 0 [.ref j, .int i0, .int i1, .int it, .int i2] [[(j, .inr (3, [.ref ja, .ref jb, .int jr, .int jk, .int jc, .int jg, .int js]))], [(ja, .inr (6, [.ref jan]))], [(jan, .inl (cy 1, 81, .inl jaf))], [(jb, .inr (6, [.ref jbn]))], [(jbn, .inl (cy 1, 81, .inl jbf))]] (fun v u => v = some (.int res) ∧ u = [[(j, .inr (3, [.ref ja, .ref jb, .int jr, .int jk, .int jc, .int jg, .int js]))], [(ja, .inr (6, [.ref jan]))], [(jan, .inl (cy 1, 81, .inl jaf))], [(jb, .inr (6, [.ref jbn]))], [(jbn, .inl (cy 1, 81, .inl jbf))]]) := by
  unfold fX1_bringIn at hR
  refine YM.ofI (cc := cX1_bringIn) (maxL := 7) (ret := (some .int)) (by decide +kernel) rfl (Nat.le_of_ble_eq_true rfl) [(0, .ref j), (1, .int i0), (2, .int i1), (3, .int it), (4, .int i2)] rfl rfl (fun p e s m args below meth c A H0 Q C hnm ret => ?_)
  refine xr_aload_n (n := 1) (j := 0) C dd_X1_bringIn_0.1 rfl rfl ?_
  refine xr_iload_n (n := 2) (j := 2) C dd_X1_bringIn_0.2.1 rfl rfl ?_
  refine xr_iload_n (n := 3) (j := 3) C dd_X1_bringIn_0.2.2.1 rfl rfl ?_
  obtain ⟨x_1, hx_1, hR⟩ := yf_b hR
  refine xr_callVp (n := 6) (As := [.int i1, .int it]) (rest := []) C (kX1_leftOperand l D cy (j := j) (ja := ja) (jb := jb) (jr := jr) (jk := jk) (jc := jc) (jg := jg) (js := js) (jan := jan) (jaf := jaf) (i1 := i1) (i2 := it) hx_1) mX1_leftOperand u_532 u_533 u_534 0 rfl rfl 5 [0, 1, 2] [3, 4] rfl (by decide +kernel) rfl rfl rfl rfl (Nat.le_of_ble_eq_true rfl) (Nat.le_of_ble_eq_true rfl) (Nat.le_of_ble_eq_true rfl) (Nat.le_of_ble_eq_true rfl) (Nat.le_of_ble_eq_true rfl) dd_X1_bringIn_0.2.2.2.1 rfl (fun _ _ hp => hp.2) (fun v_2 hp_4 => ?_)
  obtain ⟨rfl, -⟩ := hp_4
  refine xr_st (st' := [.int x_1]) rfl ?_
  refine xr_istore (n := 8) C [(5, .int x_1), (0, .ref j), (1, .int i0), (2, .int i1), (3, .int it), (4, .int i2)] dd_X1_bringIn_0.2.2.2.2.1 (by decide) rfl rfl ?_
  refine xr_aload_n (n := 9) (j := 1) C dd_X1_bringIn_0.2.2.2.2.2.1 rfl rfl ?_
  refine xr_iload_n (n := 10) (j := 4) C dd_X1_bringIn_0.2.2.2.2.2.2.1 rfl rfl ?_
  refine xr_iload (n := 12) (j := 5) C dd_X1_bringIn_0.2.2.2.2.2.2.2.1 rfl rfl ?_
  obtain ⟨x_5, hx_5, hR⟩ := yf_b hR
  refine xr_callVp (n := 15) (As := [.int it, .int i2]) (rest := []) C (kX1_topOperand l D cy (j := j) (ja := ja) (jb := jb) (jr := jr) (jk := jk) (jc := jc) (jg := jg) (js := js) (jbn := jbn) (jbf := jbf) (i1 := it) (i2 := i2) hx_5) mX1_topOperand u_536 u_537 u_538 0 rfl rfl 5 [0, 3, 4] [1, 2] rfl (by decide +kernel) rfl rfl rfl rfl (Nat.le_of_ble_eq_true rfl) (Nat.le_of_ble_eq_true rfl) (Nat.le_of_ble_eq_true rfl) (Nat.le_of_ble_eq_true rfl) (Nat.le_of_ble_eq_true rfl) dd_X1_bringIn_0.2.2.2.2.2.2.2.2.1 rfl (fun _ _ hp => hp.2) (fun v_6 hp_8 => ?_)
  obtain ⟨rfl, -⟩ := hp_8
  refine xr_st (st' := [.int x_5]) rfl ?_
  refine xr_istore (n := 17) C [(6, .int x_5), (5, .int x_1), (0, .ref j), (1, .int i0), (2, .int i1), (3, .int it), (4, .int i2)] dd_X1_bringIn_0.2.2.2.2.2.2.2.2.2.1 (by decide) rfl rfl ?_
  refine xr_aload_n (n := 18) (j := 2) C dd_X1_bringIn_0.2.2.2.2.2.2.2.2.2.2.1 rfl rfl ?_
  refine xr_get (n := 21) C 0 rfl rfl 5 (by decide) in_X1 u_119 rfl (v := .int jg) rfl dd_X1_bringIn_0.2.2.2.2.2.2.2.2.2.2.2.1 rfl ?_
  by_cases c_9 : jg = 1
  · replace hR := yf_t c_9 hR
    refine xr_lookup (off := 27) (tgt := 48) C dX1_bringIn_21 (by decide) (by rw [c_9]; decide) rfl ?_
    refine xr_iload_n (n := 49) (j := 3) C dd_X1_bringIn_0.2.2.2.2.2.2.2.2.2.2.2.2.1 rfl rfl ?_
    refine xr_iload (n := 51) (j := 1) C dd_X1_bringIn_0.2.2.2.2.2.2.2.2.2.2.2.2.2.1 rfl rfl ?_
    refine xr_iload (n := 53) (j := 0) C dd_X1_bringIn_0.2.2.2.2.2.2.2.2.2.2.2.2.2.2.1 rfl rfl ?_
    refine xr_iadd (n := 54) C dd_X1_bringIn_0.2.2.2.2.2.2.2.2.2.2.2.2.2.2.2.1 rfl ?_
    refine xr_mmin (n := 57) C u_540 u_438 u_74 u_439 (Nat.le_of_ble_eq_true rfl) (Nat.le_of_ble_eq_true rfl) (Nat.le_of_ble_eq_true rfl) (Nat.le_of_ble_eq_true rfl) dd_X1_bringIn_1.1 rfl ?_
    obtain rfl := Option.some.inj hR
    exact ret (xn_min i0 (x_1 + x_5)) ⟨rfl, rfl⟩ (Nat.le_of_ble_eq_true rfl) (Nat.le_of_ble_eq_true rfl) dd_X1_bringIn_1.2.1
  replace hR := yf_f c_9 hR
  by_cases c_10 : jg = 2
  · replace hR := yf_t c_10 hR
    refine xr_lookup (off := 37) (tgt := 58) C dX1_bringIn_21 (by decide) (by rw [c_10]; decide) rfl ?_
    refine xr_iload_n (n := 59) (j := 3) C dd_X1_bringIn_1.2.2.1 rfl rfl ?_
    refine xr_iload (n := 61) (j := 1) C dd_X1_bringIn_1.2.2.2.1 rfl rfl ?_
    refine xr_iload (n := 63) (j := 0) C dd_X1_bringIn_1.2.2.2.2.1 rfl rfl ?_
    refine xr_mmin (n := 66) C u_540 u_438 u_74 u_439 (Nat.le_of_ble_eq_true rfl) (Nat.le_of_ble_eq_true rfl) (Nat.le_of_ble_eq_true rfl) (Nat.le_of_ble_eq_true rfl) dd_X1_bringIn_1.2.2.2.2.2.1 rfl ?_
    refine xr_mmax (n := 69) C u_541 u_445 u_74 u_446 (Nat.le_of_ble_eq_true rfl) (Nat.le_of_ble_eq_true rfl) (Nat.le_of_ble_eq_true rfl) (Nat.le_of_ble_eq_true rfl) dd_X1_bringIn_1.2.2.2.2.2.2.1 rfl ?_
    obtain rfl := Option.some.inj hR
    exact ret (xn_max i0 (xn_min x_1 x_5)) ⟨rfl, rfl⟩ (Nat.le_of_ble_eq_true rfl) (Nat.le_of_ble_eq_true rfl) dd_X1_bringIn_1.2.2.2.2.2.2.2.1
  replace hR := yf_f c_10 hR
  refine xr_lookup (off := 49) (tgt := 70) C dX1_bringIn_21 (by decide) ((lv_osw c_9 (by decide)).trans ((lv_osw c_10 (by decide)).trans rfl)) rfl ?_
  refine xr_iload_n (n := 71) (j := 3) C dd_X1_bringIn_1.2.2.2.2.2.2.2.2.1 rfl rfl ?_
  refine xr_iload (n := 73) (j := 1) C dd_X1_bringIn_1.2.2.2.2.2.2.2.2.2.1 rfl rfl ?_
  refine xr_iload (n := 75) (j := 0) C dd_X1_bringIn_1.2.2.2.2.2.2.2.2.2.2.1 rfl rfl ?_
  refine xr_imul (n := 76) C dd_X1_bringIn_1.2.2.2.2.2.2.2.2.2.2.2.1 rfl ?_
  refine xr_iadd (n := 77) C dd_X1_bringIn_1.2.2.2.2.2.2.2.2.2.2.2.2.1 rfl ?_
  obtain rfl := Option.some.inj hR
  exact ret (i0 + (x_1 * x_5)) ⟨rfl, rfl⟩ (Nat.le_of_ble_eq_true rfl) (Nat.le_of_ble_eq_true rfl) dd_X1_bringIn_1.2.2.2.2.2.2.2.2.2.2.2.2.2.1
