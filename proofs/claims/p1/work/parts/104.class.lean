theorem u_524 : Cond.methodLink RX1 64 yX1_firstSum ∈ yU := yu_tables_1_2 228 (by decide +kernel) (by decide +kernel)
theorem u_525 : Cond.instanceMethod yX1_firstSum ∈ yU := yu_tables_1_2 229 (by decide +kernel) (by decide +kernel)
theorem u_526 : Cond.selects RX1 yX1_firstSum yX1_firstSum ∈ yU := yu_tables_1_2 230 (by decide +kernel) (by decide +kernel)
theorem u_528 : Cond.methodLink RX1 68 yX1_bringIn ∈ yU := yu_tables_1_2 232 (by decide +kernel) (by decide +kernel)
theorem u_529 : Cond.instanceMethod yX1_bringIn ∈ yU := yu_tables_1_2 233 (by decide +kernel) (by decide +kernel)
theorem u_530 : Cond.selects RX1 yX1_bringIn yX1_bringIn ∈ yU := yu_tables_1_2 234 (by decide +kernel) (by decide +kernel)
theorem u_523 : Cond.code yX1_plainOf cX1_plainOf 5 (some .int) ∈ yU := yu_tables_1_2 227 (by decide +kernel) (by decide +kernel)
theorem u_339 : Cond.code yX1_isLeftNought cX1_isLeftNought 3 (some .boolean) ∈ yU := yu_tables_1_2 43 (by decide +kernel) (by decide +kernel)
theorem u_347 : Cond.code yX1_isTopNought cX1_isTopNought 3 (some .boolean) ∈ yU := yu_tables_1_2 51 (by decide +kernel) (by decide +kernel)
theorem u_336 : Cond.methodLink RX1 72 yX1_isLeftNought ∈ yU := yu_tables_1_2 40 (by decide +kernel) (by decide +kernel)
theorem u_338 : Cond.instanceMethod yX1_isLeftNought ∈ yU := yu_tables_1_2 42 (by decide +kernel) (by decide +kernel)
theorem u_1 : Cond.selects RX1 yX1_isLeftNought yX1_isLeftNought ∈ yU := yu 1 (by decide +kernel) (by decide +kernel)
theorem u_344 : Cond.methodLink RX1 76 yX1_isTopNought ∈ yU := yu_tables_1_2 48 (by decide +kernel) (by decide +kernel)
theorem u_346 : Cond.instanceMethod yX1_isTopNought ∈ yU := yu_tables_1_2 50 (by decide +kernel) (by decide +kernel)
theorem u_2 : Cond.selects RX1 yX1_isTopNought yX1_isTopNought ∈ yU := yu 2 (by decide +kernel) (by decide +kernel)
theorem u_335 : Cond.code yX1_skippedSet cX1_skippedSet 3 (some .int) ∈ yU := yu_tables_1_2 39 (by decide +kernel) (by decide +kernel)
theorem u_332 : Cond.methodLink RX1 79 yX1_skippedSet ∈ yU := yu_tables_1_2 36 (by decide +kernel) (by decide +kernel)
theorem u_333 : Cond.instanceMethod yX1_skippedSet ∈ yU := yu_tables_1_2 37 (by decide +kernel) (by decide +kernel)
theorem u_334 : Cond.selects RX1 yX1_skippedSet yX1_skippedSet ∈ yU := yu_tables_1_2 38 (by decide +kernel) (by decide +kernel)
theorem u_348 : Cond.methodLink RX1 82 yJ6_bitCount_0f7a4 ∈ yU := yu_tables_1_2 52 (by decide +kernel) (by decide +kernel)
theorem u_331 : Cond.code yX1_countSteps cX1_countSteps 1 (some .int) ∈ yU := yu_tables_1_2 35 (by decide +kernel) (by decide +kernel)
theorem u_361 : Cond.code yX2_countPieces cX2_countPieces 2 (some .int) ∈ yU := yu_tables_1_2 65 (by decide +kernel) (by decide +kernel)
theorem u_63 : Cond.initialized RX2 ∈ yU := yu_tables_1_1 7 (by decide +kernel) (by decide +kernel)
theorem dd_X1_plainOf_0 : dk_R cX1_plainOf [(0, .aload_n 0, 1), (1, .invokevirtual 64, 3), (4, .istore_n 3, 1), (5, .iconst 0, 1), (6, .istore 4, 2), (8, .iload 4, 2), (10, .aload_n 0, 1), (11, .getfield 25, 3), (14, .if_icmp .ge 19, 3), (17, .aload_n 0, 1), (18, .iload_n 3, 1), (19, .iload_n 1, 1), (20, .iload 4, 2), (22, .iload_n 2, 1), (23, .invokevirtual 68, 3), (26, .istore_n 3, 1)] := dk_use _ _ (by decide +kernel)
theorem dd_X1_plainOf_1 : dk_R cX1_plainOf [(27, .iinc 4 1, 3), (30, .goto (-22), 3), (33, .iload_n 3, 1), (34, .ireturn, 1)] := dk_use _ _ (by decide +kernel)
def fX1_plainOf (jr : Int32) (jk : Int32) (jc : Int32) (jg : Int32) (jaf : Nat → Int32) (jbf : Nat → Int32) (i1 : Int32) (i2 : Int32) : Option (Int32) := ((fX1_firstSum jg).bind fun x_1 => ((wl (S := Int32 × Int32) (B := Int32 × Int32) (fun s_5 => (if jk ≤ s_5.2 then some (.inr (s_5.1, s_5.2)) else ((fX1_bringIn jr jc jg jaf jbf s_5.1 i1 s_5.2 i2).bind fun x_8 => some (.inl (x_8, s_5.2 + 1))))) yFuel (x_1, 0)).bind fun b_5 => some b_5.1))
abbrev hX1_plainOf : Cond := .code yX1_plainOf cX1_plainOf 5 (some .int)
theorem mX1_plainOf : yM yX1_plainOf hX1_plainOf 2 := ⟨u_523, u_58, by decide +kernel, by decide +kernel, by decide +kernel⟩
set_option maxHeartbeats 4000000 in
set_option maxRecDepth 100000 in
theorem kX1_plainOf (l : Launch) (D : va_G) (cy : Nat → ClassId) (j : Nat) (ja : Nat) (jb : Nat) (jr : Int32) (jk : Int32) (jc : Int32) (jg : Int32) (js : Int32) (jan : Nat) (jaf : Nat → Int32) (jbn : Nat) (jbf : Nat → Int32) (i1 : Int32) (i2 : Int32) {res : Int32} (hR : fX1_plainOf jr jk jc jg jaf jbf i1 i2 = some res) : YM l D cy yX1_plainOf hX1_plainOf 4 0 0 [.ref j, .int i1, .int i2] [[(j, .inr (3, [.ref ja, .ref jb, .int jr, .int jk, .int jc, .int jg, .int js]))], [(ja, .inr (6, [.ref jan]))], [(jan, .inl (cy 1, 81, .inl jaf))], [(jb, .inr (6, [.ref jbn]))], [(jbn, .inl (cy 1, 81, .inl jbf))]] (fun v u => v = some (.int res) ∧ u = [[(j, .inr (3, [.ref ja, .ref jb, .int jr, .int jk, .int jc, .int jg, .int js]))], [(ja, .inr (6, [.ref jan]))], [(jan, .inl (cy 1, 81, .inl jaf))], [(jb, .inr (6, [.ref jbn]))], [(jbn, .inl (cy 1, 81, .inl jbf))]]) := by
  unfold fX1_plainOf at hR
  refine YM.ofI (cc := cX1_plainOf) (maxL := 5) (ret := (some .int)) (by decide +kernel) rfl (Nat.le_of_ble_eq_true rfl) [(0, .ref j), (1, .int i1), (2, .int i2)] rfl rfl (fun p e s m args below meth c A H0 Q C hnm ret => ?_)
  refine xr_aload_n (n := 1) (j := 0) C dd_X1_plainOf_0.1 rfl rfl ?_
  obtain ⟨x_1, hx_1, hR⟩ := yf_b hR
  refine xr_callVp (n := 4) (As := []) (rest := []) C (kX1_firstSum l D cy (j := j) (ja := ja) (jb := jb) (jr := jr) (jk := jk) (jc := jc) (jg := jg) (js := js) hx_1) mX1_firstSum u_524 u_525 u_526 0 rfl rfl 5 [0] [1, 2, 3, 4] rfl (by decide +kernel) rfl rfl rfl rfl (Nat.le_of_ble_eq_true rfl) (Nat.le_of_ble_eq_true rfl) (Nat.le_of_ble_eq_true rfl) (Nat.le_of_ble_eq_true rfl) (Nat.le_of_ble_eq_true rfl) dd_X1_plainOf_0.2.1 rfl (fun _ _ hp => hp.2) (fun v_2 hp_4 => ?_)
  obtain ⟨rfl, -⟩ := hp_4
  refine xr_st (st' := [.int x_1]) rfl ?_
  refine xr_istore_n (n := 5) C [(3, .int x_1), (0, .ref j), (1, .int i1), (2, .int i2)] dd_X1_plainOf_0.2.2.1 (by decide) rfl rfl ?_
  refine xr_iconst (n := 6) (v := 0) C dd_X1_plainOf_0.2.2.2.1 rfl rfl ?_
  refine xr_istore (n := 8) C [(4, .int 0), (3, .int x_1), (0, .ref j), (1, .int i1), (2, .int i2)] dd_X1_plainOf_0.2.2.2.2.1 (by decide) rfl rfl ?_
  refine xr_lv (lv' := [(0, .ref j), (1, .int i1), (2, .int i2), (3, .int x_1), (4, .int 0)]) [2, 3, 4, 1, 0] rfl ?_
  obtain ⟨b_5, hb_5, hR⟩ := yf_b hR
  have K_5 : X p l e (yR 4 0 0) s m args below meth c D A H0 5 Q [[(j, .inr (3, [.ref ja, .ref jb, .int jr, .int jk, .int jc, .int jg, .int js]))], [(ja, .inr (6, [.ref jan]))], [(jan, .inl (cy 1, 81, .inl jaf))], [(jb, .inr (6, [.ref jbn]))], [(jbn, .inl (cy 1, 81, .inl jbf))]] 0 0 [(3, .int b_5.1)] 33 [] := by
    refine xr_iload_n (n := 34) (j := 0) C dd_X1_plainOf_1.2.2.1 rfl rfl ?_
    obtain rfl := Option.some.inj hR
    exact ret b_5.1 ⟨rfl, rfl⟩ (Nat.le_of_ble_eq_true rfl) (Nat.le_of_ble_eq_true rfl) dd_X1_plainOf_1.2.2.2.1
  refine y_loop (P := fun (s_5 : Int32 × Int32) => X p l e (yR 4 0 0) s m args below meth c D A H0 5 Q [[(j, .inr (3, [.ref ja, .ref jb, .int jr, .int jk, .int jc, .int jg, .int js]))], [(ja, .inr (6, [.ref jan]))], [(jan, .inl (cy 1, 81, .inl jaf))], [(jb, .inr (6, [.ref jbn]))], [(jbn, .inl (cy 1, 81, .inl jbf))]] 0 0 [(0, .ref j), (1, .int i1), (2, .int i2), (3, .int s_5.1), (4, .int s_5.2)] 8 []) ?_ _ (x_1, 0) hb_5
  intro s_5 o_5 ho_5 hk_5 hx_5
  refine xr_iload (n := 10) (j := 4) C dd_X1_plainOf_0.2.2.2.2.2.1 rfl rfl ?_
  refine xr_aload_n (n := 11) (j := 0) C dd_X1_plainOf_0.2.2.2.2.2.2.1 rfl rfl ?_
  refine xr_get (n := 14) C 0 rfl rfl 3 (by decide) in_X1 u_115 rfl (v := .int jk) rfl dd_X1_plainOf_0.2.2.2.2.2.2.2.1 rfl ?_
  refine xr_icmp_ge (tgt := 33) (n := 17) C dd_X1_plainOf_0.2.2.2.2.2.2.2.2.1 rfl rfl (fun c_6 => ?_) (fun c_6 => ?_)
  · replace ho_5 := yf_t c_6 ho_5
    refine xr_lv (lv' := [(3, .int s_5.1)]) [3] rfl ?_
    have e_7 := hx_5 _ (Option.some.inj ho_5).symm
    subst e_7
    exact K_5
  · replace ho_5 := yf_f c_6 ho_5
    refine xr_aload_n (n := 18) (j := 0) C dd_X1_plainOf_0.2.2.2.2.2.2.2.2.2.1 rfl rfl ?_
    refine xr_iload_n (n := 19) (j := 3) C dd_X1_plainOf_0.2.2.2.2.2.2.2.2.2.2.1 rfl rfl ?_
    refine xr_iload_n (n := 20) (j := 1) C dd_X1_plainOf_0.2.2.2.2.2.2.2.2.2.2.2.1 rfl rfl ?_
    refine xr_iload (n := 22) (j := 4) C dd_X1_plainOf_0.2.2.2.2.2.2.2.2.2.2.2.2.1 rfl rfl ?_
    refine xr_iload_n (n := 23) (j := 2) C dd_X1_plainOf_0.2.2.2.2.2.2.2.2.2.2.2.2.2.1 rfl rfl ?_
    obtain ⟨x_8, hx_8, ho_5⟩ := yf_b ho_5
    refine xr_callVp (n := 26) (As := [.int s_5.1, .int i1, .int s_5.2, .int i2]) (rest := []) C (kX1_bringIn l D cy (j := j) (ja := ja) (jb := jb) (jr := jr) (jk := jk) (jc := jc) (jg := jg) (js := js) (jan := jan) (jaf := jaf) (jbn := jbn) (jbf := jbf) (i0 := s_5.1) (i1 := i1) (it := s_5.2) (i2 := i2) hx_8) mX1_bringIn u_528 u_529 u_530 0 rfl rfl 5 [0, 1, 2, 3, 4] [] rfl (by decide +kernel) rfl rfl rfl rfl (Nat.le_of_ble_eq_true rfl) (Nat.le_of_ble_eq_true rfl) (Nat.le_of_ble_eq_true rfl) (Nat.le_of_ble_eq_true rfl) (Nat.le_of_ble_eq_true rfl) dd_X1_plainOf_0.2.2.2.2.2.2.2.2.2.2.2.2.2.2.1 rfl (fun _ _ hp => hp.2) (fun v_9 hp_11 => ?_)
    obtain ⟨rfl, -⟩ := hp_11
    refine xr_st (st' := [.int x_8]) rfl ?_
    refine xr_istore_n (n := 27) C [(3, .int x_8), (0, .ref j), (1, .int i1), (2, .int i2), (4, .int s_5.2)] dd_X1_plainOf_0.2.2.2.2.2.2.2.2.2.2.2.2.2.2.2.1 (by decide) rfl rfl ?_
    refine xr_iinc (j := 4) (v := s_5.2 + 1) (n := 30) C [(4, .int (s_5.2 + 1)), (3, .int x_8), (0, .ref j), (1, .int i1), (2, .int i2)] dd_X1_plainOf_1.1 rfl rfl (by decide) rfl rfl ?_
    refine xr_goto (tgt := 8) C dd_X1_plainOf_1.2.1 rfl ?_
    refine xr_lv (lv' := [(0, .ref j), (1, .int i1), (2, .int i2), (3, .int x_8), (4, .int (s_5.2 + 1))]) [2, 3, 4, 1, 0] rfl ?_
    exact hk_5 (x_8, s_5.2 + 1) (Option.some.inj ho_5).symm
theorem dd_X1_isLeftNought_0 : dk_R cX1_isLeftNought [(0, .iconst 0, 1), (1, .istore_n 2, 1), (2, .iload_n 2, 1), (3, .aload_n 0, 1), (4, .getfield 21, 3), (7, .if_icmp .ge 23, 3), (10, .aload_n 0, 1), (11, .getfield 12, 3), (14, .iload_n 2, 1), (15, .iload_n 1, 1), (16, .invokevirtual 46, 3), (19, .ifCond .eq 5, 3), (22, .iconst 0, 1), (23, .ireturn, 1), (24, .iinc 2 1, 3), (27, .goto (-25), 3)] := dk_use _ _ (by decide +kernel)
theorem dd_X1_isLeftNought_1 : dk_R cX1_isLeftNought [(30, .iconst 1, 1), (31, .ireturn, 1)] := dk_use _ _ (by decide +kernel)
def fX1_isLeftNought (jr : Int32) (jaf : Nat → Int32) (it : Int32) : Option (Int32) := ((wl (S := Int32) (B := (Int32) ⊕ Int32) (fun s_1 => (if jr ≤ s_1 then some (.inr (.inl s_1)) else ((fX4_get jaf s_1 it).bind fun x_4 => (if x_4 = 0 then some (.inl (s_1 + 1)) else some (.inr (.inr 0)))))) yFuel 0).bind fun b_1 => ybr b_1 (fun z_1 => some 1) (fun r => some r))
abbrev hX1_isLeftNought : Cond := .code yX1_isLeftNought cX1_isLeftNought 3 (some .boolean)
theorem mX1_isLeftNought : yM yX1_isLeftNought hX1_isLeftNought 1 := ⟨u_339, u_58, by decide +kernel, by decide +kernel, by decide +kernel⟩
set_option maxHeartbeats 4000000 in
set_option maxRecDepth 100000 in
theorem kX1_isLeftNought (l : Launch) (D : va_G) (cy : Nat → ClassId) (j : Nat) (ja : Nat) (jb : Nat) (jr : Int32) (jk : Int32) (jc : Int32) (jg : Int32) (js : Int32) (jan : Nat) (jaf : Nat → Int32) (it : Int32) {res : Int32} (hR : fX1_isLeftNought jr jaf it = some res) : YM l D cy yX1_isLeftNought hX1_isLeftNought 2 0 0 [.ref j, .int it] [[(j, .inr (3, [.ref ja, .ref jb, .int jr, .int jk, .int jc, .int jg, .int js]))], [(ja, .inr (6, [.ref jan]))], [(jan, .inl (cy 1, 81, .inl jaf))]] (fun v u => v = some (.int res) ∧ u = [[(j, .inr (3, [.ref ja, .ref jb, .int jr, .int jk, .int jc, .int jg, .int js]))], [(ja, .inr (6, [.ref jan]))], [(jan, .inl (cy 1, 81, .inl jaf))]]) := by
  unfold fX1_isLeftNought at hR
  refine YM.ofZ (cc := cX1_isLeftNought) (maxL := 3) (ret := (some .boolean)) (by decide +kernel) rfl (Nat.le_of_ble_eq_true rfl) [(0, .ref j), (1, .int it)] rfl .boolean rfl (fun p e s m args below meth c A H0 Q C hnm ret => ?_)
  refine xr_iconst (n := 1) (v := 0) C dd_X1_isLeftNought_0.1 rfl rfl ?_
  refine xr_istore_n (n := 2) C [(2, .int 0), (0, .ref j), (1, .int it)] dd_X1_isLeftNought_0.2.1 (by decide) rfl rfl ?_
  refine xr_lv (lv' := [(0, .ref j), (1, .int it), (2, .int 0)]) [1, 2, 0] rfl ?_
  obtain ⟨b_1, hb_1, hR⟩ := yf_b hR
  have K_1 : ∀ z_1, b_1 = .inl z_1 → X p l e (yR 2 0 0) s m args below meth c D A H0 3 Q [[(j, .inr (3, [.ref ja, .ref jb, .int jr, .int jk, .int jc, .int jg, .int js]))], [(ja, .inr (6, [.ref jan]))], [(jan, .inl (cy 1, 81, .inl jaf))]] 0 0 [] 30 [] := by
    intro z_1 e_1; subst e_1; replace hR := ybr_l hR
    refine xr_iconst (n := 31) (v := 1) C dd_X1_isLeftNought_1.1 rfl rfl ?_
    obtain rfl := Option.some.inj hR
    exact ret 1 (by decide) ⟨rfl, rfl⟩ (Nat.le_of_ble_eq_true rfl) (Nat.le_of_ble_eq_true rfl) dd_X1_isLeftNought_1.2.1
  refine y_loop (P := fun (s_1 : Int32) => X p l e (yR 2 0 0) s m args below meth c D A H0 3 Q [[(j, .inr (3, [.ref ja, .ref jb, .int jr, .int jk, .int jc, .int jg, .int js]))], [(ja, .inr (6, [.ref jan]))], [(jan, .inl (cy 1, 81, .inl jaf))]] 0 0 [(0, .ref j), (1, .int it), (2, .int s_1)] 2 []) ?_ _ 0 hb_1
  intro s_1 o_1 ho_1 hk_1 hx_1
  refine xr_iload_n (n := 3) (j := 2) C dd_X1_isLeftNought_0.2.2.1 rfl rfl ?_
  refine xr_aload_n (n := 4) (j := 0) C dd_X1_isLeftNought_0.2.2.2.1 rfl rfl ?_
  refine xr_get (n := 7) C 0 rfl rfl 2 (by decide) in_X1 u_113 rfl (v := .int jr) rfl dd_X1_isLeftNought_0.2.2.2.2.1 rfl ?_
  refine xr_icmp_ge (tgt := 30) (n := 10) C dd_X1_isLeftNought_0.2.2.2.2.2.1 rfl rfl (fun c_2 => ?_) (fun c_2 => ?_)
  · replace ho_1 := yf_t c_2 ho_1
    refine xr_lv (lv' := []) [] rfl ?_
    have e_3 := hx_1 _ (Option.some.inj ho_1).symm
    exact K_1 s_1 e_3.symm
  · replace ho_1 := yf_f c_2 ho_1
    refine xr_aload_n (n := 11) (j := 0) C dd_X1_isLeftNought_0.2.2.2.2.2.2.1 rfl rfl ?_
    refine xr_get (n := 14) C 0 rfl rfl 0 (by decide) in_X1 u_109 rfl (v := .ref ja) rfl dd_X1_isLeftNought_0.2.2.2.2.2.2.2.1 rfl ?_
    refine xr_iload_n (n := 15) (j := 2) C dd_X1_isLeftNought_0.2.2.2.2.2.2.2.2.1 rfl rfl ?_
    refine xr_iload_n (n := 16) (j := 1) C dd_X1_isLeftNought_0.2.2.2.2.2.2.2.2.2.1 rfl rfl ?_
    obtain ⟨x_4, hx_4, ho_1⟩ := yf_b ho_1
    refine xr_callVp (n := 19) (As := [.int s_1, .int it]) (rest := []) C (kX4_get l D cy (h := ja) (hn := jan) (hf := jaf) (row := s_1) (col := it) hx_4) mX4_get u_340 u_341 u_342 1 rfl rfl 3 [1, 2] [0] rfl (by decide +kernel) rfl rfl rfl rfl (Nat.le_of_ble_eq_true rfl) (Nat.le_of_ble_eq_true rfl) (Nat.le_of_ble_eq_true rfl) (Nat.le_of_ble_eq_true rfl) (Nat.le_of_ble_eq_true rfl) dd_X1_isLeftNought_0.2.2.2.2.2.2.2.2.2.2.1 rfl (fun _ _ hp => hp.2) (fun v_5 hp_7 => ?_)
    obtain ⟨rfl, -⟩ := hp_7
    refine xr_st (st' := [.int x_4]) rfl ?_
    refine xr_if_eq (tgt := 24) (n := 22) C dd_X1_isLeftNought_0.2.2.2.2.2.2.2.2.2.2.2.1 rfl rfl (fun c_8 => ?_) (fun c_8 => ?_)
    · replace ho_1 := yf_t c_8 ho_1
      refine xr_iinc (j := 2) (v := s_1 + 1) (n := 27) C [(2, .int (s_1 + 1)), (0, .ref j), (1, .int it)] dd_X1_isLeftNought_0.2.2.2.2.2.2.2.2.2.2.2.2.2.2.1 rfl rfl (by decide) rfl rfl ?_
      refine xr_goto (tgt := 2) C dd_X1_isLeftNought_0.2.2.2.2.2.2.2.2.2.2.2.2.2.2.2.1 rfl ?_
      refine xr_lv (lv' := [(0, .ref j), (1, .int it), (2, .int (s_1 + 1))]) [1, 2, 0] rfl ?_
      exact hk_1 (s_1 + 1) (Option.some.inj ho_1).symm
    · replace ho_1 := yf_f c_8 ho_1
      refine xr_iconst (n := 23) (v := 0) C dd_X1_isLeftNought_0.2.2.2.2.2.2.2.2.2.2.2.2.1 rfl rfl ?_
      have e_9 := hx_1 _ (Option.some.inj ho_1).symm
      subst e_9
      replace hR := ybr_r hR
      obtain rfl := Option.some.inj hR
      exact ret 0 (by decide) ⟨rfl, rfl⟩ (Nat.le_of_ble_eq_true rfl) (Nat.le_of_ble_eq_true rfl) dd_X1_isLeftNought_0.2.2.2.2.2.2.2.2.2.2.2.2.2.1
theorem dd_X1_isTopNought_0 : dk_R cX1_isTopNought [(0, .iconst 0, 1), (1, .istore_n 2, 1), (2, .iload_n 2, 1), (3, .aload_n 0, 1), (4, .getfield 28, 3), (7, .if_icmp .ge 23, 3), (10, .aload_n 0, 1), (11, .getfield 18, 3), (14, .iload_n 1, 1), (15, .iload_n 2, 1), (16, .invokevirtual 46, 3), (19, .ifCond .eq 5, 3), (22, .iconst 0, 1), (23, .ireturn, 1), (24, .iinc 2 1, 3), (27, .goto (-25), 3)] := dk_use _ _ (by decide +kernel)
theorem dd_X1_isTopNought_1 : dk_R cX1_isTopNought [(30, .iconst 1, 1), (31, .ireturn, 1)] := dk_use _ _ (by decide +kernel)
def fX1_isTopNought (jc : Int32) (jbf : Nat → Int32) (it : Int32) : Option (Int32) := ((wl (S := Int32) (B := (Int32) ⊕ Int32) (fun s_1 => (if jc ≤ s_1 then some (.inr (.inl s_1)) else ((fX4_get jbf it s_1).bind fun x_4 => (if x_4 = 0 then some (.inl (s_1 + 1)) else some (.inr (.inr 0)))))) yFuel 0).bind fun b_1 => ybr b_1 (fun z_1 => some 1) (fun r => some r))
abbrev hX1_isTopNought : Cond := .code yX1_isTopNought cX1_isTopNought 3 (some .boolean)
theorem mX1_isTopNought : yM yX1_isTopNought hX1_isTopNought 1 := ⟨u_347, u_58, by decide +kernel, by decide +kernel, by decide +kernel⟩
set_option maxHeartbeats 4000000 in
set_option maxRecDepth 100000 in
theorem kX1_isTopNought (l : Launch) (D : va_G) (cy : Nat → ClassId) (j : Nat) (ja : Nat) (jb : Nat) (jr : Int32) (jk : Int32) (jc : Int32) (jg : Int32) (js : Int32) (jbn : Nat) (jbf : Nat → Int32) (it : Int32) {res : Int32} (hR : fX1_isTopNought jc jbf it = some res) : YM l D cy yX1_isTopNought hX1_isTopNought 2 0 0 [.ref j, .int it] [[(j, .inr (3, [.ref ja, .ref jb, .int jr, .int jk, .int jc, .int jg, .int js]))], [(jb, .inr (6, [.ref jbn]))], [(jbn, .inl (cy 1, 81, .inl jbf))]] (fun v u => v = some (.int res) ∧ u = [[(j, .inr (3, [.ref ja, .ref jb, .int jr, .int jk, .int jc, .int jg, .int js]))], [(jb, .inr (6, [.ref jbn]))], [(jbn, .inl (cy 1, 81, .inl jbf))]]) := by
  unfold fX1_isTopNought at hR
  refine YM.ofZ (cc := cX1_isTopNought) (maxL := 3) (ret := (some .boolean)) (by decide +kernel) rfl (Nat.le_of_ble_eq_true rfl) [(0, .ref j), (1, .int it)] rfl .boolean rfl (fun p e s m args below meth c A H0 Q C hnm ret => ?_)
  refine xr_iconst (n := 1) (v := 0) C dd_X1_isTopNought_0.1 rfl rfl ?_
  refine xr_istore_n (n := 2) C [(2, .int 0), (0, .ref j), (1, .int it)] dd_X1_isTopNought_0.2.1 (by decide) rfl rfl ?_
  refine xr_lv (lv' := [(0, .ref j), (1, .int it), (2, .int 0)]) [1, 2, 0] rfl ?_
  obtain ⟨b_1, hb_1, hR⟩ := yf_b hR
  have K_1 : ∀ z_1, b_1 = .inl z_1 → X p l e (yR 2 0 0) s m args below meth c D A H0 3 Q [[(j, .inr (3, [.ref ja, .ref jb, .int jr, .int jk, .int jc, .int jg, .int js]))], [(jb, .inr (6, [.ref jbn]))], [(jbn, .inl (cy 1, 81, .inl jbf))]] 0 0 [] 30 [] := by
    intro z_1 e_1; subst e_1; replace hR := ybr_l hR
    refine xr_iconst (n := 31) (v := 1) C dd_X1_isTopNought_1.1 rfl rfl ?_
    obtain rfl := Option.some.inj hR
    exact ret 1 (by decide) ⟨rfl, rfl⟩ (Nat.le_of_ble_eq_true rfl) (Nat.le_of_ble_eq_true rfl) dd_X1_isTopNought_1.2.1
  refine y_loop (P := fun (s_1 : Int32) => X p l e (yR 2 0 0) s m args below meth c D A H0 3 Q [[(j, .inr (3, [.ref ja, .ref jb, .int jr, .int jk, .int jc, .int jg, .int js]))], [(jb, .inr (6, [.ref jbn]))], [(jbn, .inl (cy 1, 81, .inl jbf))]] 0 0 [(0, .ref j), (1, .int it), (2, .int s_1)] 2 []) ?_ _ 0 hb_1
  intro s_1 o_1 ho_1 hk_1 hx_1
  refine xr_iload_n (n := 3) (j := 2) C dd_X1_isTopNought_0.2.2.1 rfl rfl ?_
  refine xr_aload_n (n := 4) (j := 0) C dd_X1_isTopNought_0.2.2.2.1 rfl rfl ?_
  refine xr_get (n := 7) C 0 rfl rfl 4 (by decide) in_X1 u_117 rfl (v := .int jc) rfl dd_X1_isTopNought_0.2.2.2.2.1 rfl ?_
  refine xr_icmp_ge (tgt := 30) (n := 10) C dd_X1_isTopNought_0.2.2.2.2.2.1 rfl rfl (fun c_2 => ?_) (fun c_2 => ?_)
  · replace ho_1 := yf_t c_2 ho_1
    refine xr_lv (lv' := []) [] rfl ?_
    have e_3 := hx_1 _ (Option.some.inj ho_1).symm
    exact K_1 s_1 e_3.symm
  · replace ho_1 := yf_f c_2 ho_1
    refine xr_aload_n (n := 11) (j := 0) C dd_X1_isTopNought_0.2.2.2.2.2.2.1 rfl rfl ?_
    refine xr_get (n := 14) C 0 rfl rfl 1 (by decide) in_X1 u_111 rfl (v := .ref jb) rfl dd_X1_isTopNought_0.2.2.2.2.2.2.2.1 rfl ?_
    refine xr_iload_n (n := 15) (j := 1) C dd_X1_isTopNought_0.2.2.2.2.2.2.2.2.1 rfl rfl ?_
    refine xr_iload_n (n := 16) (j := 2) C dd_X1_isTopNought_0.2.2.2.2.2.2.2.2.2.1 rfl rfl ?_
    obtain ⟨x_4, hx_4, ho_1⟩ := yf_b ho_1
    refine xr_callVp (n := 19) (As := [.int it, .int s_1]) (rest := []) C (kX4_get l D cy (h := jb) (hn := jbn) (hf := jbf) (row := it) (col := s_1) hx_4) mX4_get u_340 u_341 u_342 1 rfl rfl 3 [1, 2] [0] rfl (by decide +kernel) rfl rfl rfl rfl (Nat.le_of_ble_eq_true rfl) (Nat.le_of_ble_eq_true rfl) (Nat.le_of_ble_eq_true rfl) (Nat.le_of_ble_eq_true rfl) (Nat.le_of_ble_eq_true rfl) dd_X1_isTopNought_0.2.2.2.2.2.2.2.2.2.2.1 rfl (fun _ _ hp => hp.2) (fun v_5 hp_7 => ?_)
    obtain ⟨rfl, -⟩ := hp_7
    refine xr_st (st' := [.int x_4]) rfl ?_
    refine xr_if_eq (tgt := 24) (n := 22) C dd_X1_isTopNought_0.2.2.2.2.2.2.2.2.2.2.2.1 rfl rfl (fun c_8 => ?_) (fun c_8 => ?_)
    · replace ho_1 := yf_t c_8 ho_1
      refine xr_iinc (j := 2) (v := s_1 + 1) (n := 27) C [(2, .int (s_1 + 1)), (0, .ref j), (1, .int it)] dd_X1_isTopNought_0.2.2.2.2.2.2.2.2.2.2.2.2.2.2.1 rfl rfl (by decide) rfl rfl ?_
      refine xr_goto (tgt := 2) C dd_X1_isTopNought_0.2.2.2.2.2.2.2.2.2.2.2.2.2.2.2.1 rfl ?_
      refine xr_lv (lv' := [(0, .ref j), (1, .int it), (2, .int (s_1 + 1))]) [1, 2, 0] rfl ?_
      exact hk_1 (s_1 + 1) (Option.some.inj ho_1).symm
    · replace ho_1 := yf_f c_8 ho_1
      refine xr_iconst (n := 23) (v := 0) C dd_X1_isTopNought_0.2.2.2.2.2.2.2.2.2.2.2.2.1 rfl rfl ?_
      have e_9 := hx_1 _ (Option.some.inj ho_1).symm
      subst e_9
      replace hR := ybr_r hR
      obtain rfl := Option.some.inj hR
      exact ret 0 (by decide) ⟨rfl, rfl⟩ (Nat.le_of_ble_eq_true rfl) (Nat.le_of_ble_eq_true rfl) dd_X1_isTopNought_0.2.2.2.2.2.2.2.2.2.2.2.2.2.1
theorem dd_X1_skippedSet_0 : dk_R cX1_skippedSet [(0, .aload_n 0, 1), (1, .getfield 31, 3), (4, .ifCond .eq 5, 3), (7, .iconst 0, 1), (8, .ireturn, 1), (9, .iconst 0, 1), (10, .istore_n 1, 1), (11, .iconst 0, 1), (12, .istore_n 2, 1), (13, .iload_n 2, 1), (14, .aload_n 0, 1), (15, .getfield 25, 3), (18, .if_icmp .ge 31, 3), (21, .aload_n 0, 1), (22, .iload_n 2, 1), (23, .invokevirtual 72, 3)] := dk_use _ _ (by decide +kernel)
theorem dd_X1_skippedSet_1 : dk_R cX1_skippedSet [(26, .ifCond .ne 11, 3), (29, .aload_n 0, 1), (30, .iload_n 2, 1), (31, .invokevirtual 76, 3), (34, .ifCond .eq 9, 3), (37, .iload_n 1, 1), (38, .iconst 1, 1), (39, .iload_n 2, 1), (40, .ishl, 1), (41, .ior, 1), (42, .istore_n 1, 1), (43, .iinc 2 1, 3), (46, .goto (-33), 3), (49, .iconst 1, 1), (50, .aload_n 0, 1), (51, .getfield 25, 3)] := dk_use _ _ (by decide +kernel)
theorem dd_X1_skippedSet_2 : dk_R cX1_skippedSet [(54, .ishl, 1), (55, .iconst 1, 1), (56, .isub, 1), (57, .istore_n 2, 1), (58, .iload_n 1, 1), (59, .iload_n 2, 1), (60, .if_icmp .ne 18, 3), (63, .iload_n 2, 1), (64, .iconst 1, 1), (65, .aload_n 0, 1), (66, .getfield 25, 3), (69, .iconst 1, 1), (70, .isub, 1), (71, .ishl, 1), (72, .iconst (-1), 1), (73, .ixor, 1)] := dk_use _ _ (by decide +kernel)
theorem dd_X1_skippedSet_3 : dk_R cX1_skippedSet [(74, .iand, 1), (75, .goto 4, 3), (78, .iload_n 1, 1), (79, .ireturn, 1)] := dk_use _ _ (by decide +kernel)
def fX1_skippedSet (jr : Int32) (jk : Int32) (jc : Int32) (jg : Int32) (jaf : Nat → Int32) (jbf : Nat → Int32) : Option (Int32) := (if jg = 0 then ((wl (S := Int32 × Int32) (B := Int32 × Int32) (fun s_2 => (if jk ≤ s_2.2 then some (.inr (s_2.1, s_2.2)) else ((fX1_isLeftNought jr jaf s_2.2).bind fun x_6 => (if x_6 = 0 then ((fX1_isTopNought jc jbf s_2.2).bind fun x_12 => (if x_12 = 0 then some (.inl (s_2.1, s_2.2 + 1)) else (ylet (s_2.1 ||| ((1 : Int32) <<< (s_2.2 &&& 31)) : Int32) fun y_17 => some (.inl (y_17, s_2.2 + 1))))) else (ylet (s_2.1 ||| ((1 : Int32) <<< (s_2.2 &&& 31)) : Int32) fun y_11 => some (.inl (y_11, s_2.2 + 1))))))) yFuel (0, 0)).bind fun b_2 => (if b_2.1 = (((1 : Int32) <<< (jk &&& 31)) - 1) then some ((((1 : Int32) <<< (jk &&& 31)) - 1) &&& (((1 : Int32) <<< ((jk - 1) &&& 31)) ^^^ (-1))) else some b_2.1)) else some 0)
abbrev hX1_skippedSet : Cond := .code yX1_skippedSet cX1_skippedSet 3 (some .int)
theorem mX1_skippedSet : yM yX1_skippedSet hX1_skippedSet 0 := ⟨u_335, u_58, by decide +kernel, by decide +kernel, by decide +kernel⟩
set_option maxHeartbeats 4000000 in
set_option maxRecDepth 100000 in
theorem kX1_skippedSet (l : Launch) (D : va_G) (cy : Nat → ClassId) (j : Nat) (ja : Nat) (jb : Nat) (jr : Int32) (jk : Int32) (jc : Int32) (jg : Int32) (js : Int32) (jan : Nat) (jaf : Nat → Int32) (jbn : Nat) (jbf : Nat → Int32) {res : Int32} (hR : fX1_skippedSet jr jk jc jg jaf jbf = some res) : YM l D cy yX1_skippedSet hX1_skippedSet 3 0 0 [.ref j] [[(j, .inr (3, [.ref ja, .ref jb, .int jr, .int jk, .int jc, .int jg, .int js]))], [(ja, .inr (6, [.ref jan]))], [(jan, .inl (cy 1, 81, .inl jaf))], [(jb, .inr (6, [.ref jbn]))], [(jbn, .inl (cy 1, 81, .inl jbf))]] (fun v u => v = some (.int res) ∧ u = [[(j, .inr (3, [.ref ja, .ref jb, .int jr, .int jk, .int jc, .int jg, .int js]))], [(ja, .inr (6, [.ref jan]))], [(jan, .inl (cy 1, 81, .inl jaf))], [(jb, .inr (6, [.ref jbn]))], [(jbn, .inl (cy 1, 81, .inl jbf))]]) := by
  unfold fX1_skippedSet at hR
  refine YM.ofI (cc := cX1_skippedSet) (maxL := 3) (ret := (some .int)) (by decide +kernel) rfl (Nat.le_of_ble_eq_true rfl) [(0, .ref j)] rfl rfl (fun p e s m args below meth c A H0 Q C hnm ret => ?_)
  refine xr_aload_n (n := 1) (j := 0) C dd_X1_skippedSet_0.1 rfl rfl ?_
  refine xr_get (n := 4) C 0 rfl rfl 5 (by decide) in_X1 u_119 rfl (v := .int jg) rfl dd_X1_skippedSet_0.2.1 rfl ?_
  refine xr_if_eq (tgt := 9) (n := 7) C dd_X1_skippedSet_0.2.2.1 rfl rfl (fun c_1 => ?_) (fun c_1 => ?_)
  · replace hR := yf_t c_1 hR
    refine xr_iconst (n := 10) (v := 0) C dd_X1_skippedSet_0.2.2.2.2.2.1 rfl rfl ?_
    refine xr_istore_n (n := 11) C [(1, .int 0), (0, .ref j)] dd_X1_skippedSet_0.2.2.2.2.2.2.1 (by decide) rfl rfl ?_
    refine xr_iconst (n := 12) (v := 0) C dd_X1_skippedSet_0.2.2.2.2.2.2.2.1 rfl rfl ?_
    refine xr_istore_n (n := 13) C [(2, .int 0), (1, .int 0), (0, .ref j)] dd_X1_skippedSet_0.2.2.2.2.2.2.2.2.1 (by decide) rfl rfl ?_
    refine xr_lv (lv' := [(0, .ref j), (1, .int 0), (2, .int 0)]) [2, 1, 0] rfl ?_
    obtain ⟨b_2, hb_2, hR⟩ := yf_b hR
    have K_2 : X p l e (yR 3 0 0) s m args below meth c D A H0 3 Q [[(j, .inr (3, [.ref ja, .ref jb, .int jr, .int jk, .int jc, .int jg, .int js]))], [(ja, .inr (6, [.ref jan]))], [(jan, .inl (cy 1, 81, .inl jaf))], [(jb, .inr (6, [.ref jbn]))], [(jbn, .inl (cy 1, 81, .inl jbf))]] 0 0 [(0, .ref j), (1, .int b_2.1)] 49 [] := by
      refine xr_iconst (n := 50) (v := 1) C dd_X1_skippedSet_1.2.2.2.2.2.2.2.2.2.2.2.2.2.1 rfl rfl ?_
      refine xr_aload_n (n := 51) (j := 0) C dd_X1_skippedSet_1.2.2.2.2.2.2.2.2.2.2.2.2.2.2.1 rfl rfl ?_
      refine xr_get (n := 54) C 0 rfl rfl 3 (by decide) in_X1 u_115 rfl (v := .int jk) rfl dd_X1_skippedSet_1.2.2.2.2.2.2.2.2.2.2.2.2.2.2.2.1 rfl ?_
      refine xr_ishl (n := 55) C dd_X1_skippedSet_2.1 rfl ?_
      refine xr_iconst (n := 56) (v := 1) C dd_X1_skippedSet_2.2.1 rfl rfl ?_
      refine xr_isub (n := 57) C dd_X1_skippedSet_2.2.2.1 rfl ?_
      refine xr_istore_n (n := 58) C [(2, .int (((1 : Int32) <<< (jk &&& 31)) - 1)), (0, .ref j), (1, .int b_2.1)] dd_X1_skippedSet_2.2.2.2.1 (by decide) rfl rfl ?_
      refine xr_iload_n (n := 59) (j := 2) C dd_X1_skippedSet_2.2.2.2.2.1 rfl rfl ?_
      refine xr_iload_n (n := 60) (j := 0) C dd_X1_skippedSet_2.2.2.2.2.2.1 rfl rfl ?_
      refine xr_icmp_ne (tgt := 78) (n := 63) C dd_X1_skippedSet_2.2.2.2.2.2.2.1 rfl rfl (fun c_3 => ?_) (fun c_3 => ?_)
      · replace hR := yf_f c_3 hR
        refine xr_iload_n (n := 79) (j := 2) C dd_X1_skippedSet_3.2.2.1 rfl rfl ?_
        obtain rfl := Option.some.inj hR
        exact ret b_2.1 ⟨rfl, rfl⟩ (Nat.le_of_ble_eq_true rfl) (Nat.le_of_ble_eq_true rfl) dd_X1_skippedSet_3.2.2.2.1
      · replace hR := yf_t c_3 hR
        refine xr_iload_n (n := 64) (j := 0) C dd_X1_skippedSet_2.2.2.2.2.2.2.2.1 rfl rfl ?_
        refine xr_iconst (n := 65) (v := 1) C dd_X1_skippedSet_2.2.2.2.2.2.2.2.2.1 rfl rfl ?_
        refine xr_aload_n (n := 66) (j := 1) C dd_X1_skippedSet_2.2.2.2.2.2.2.2.2.2.1 rfl rfl ?_
        refine xr_get (n := 69) C 0 rfl rfl 3 (by decide) in_X1 u_115 rfl (v := .int jk) rfl dd_X1_skippedSet_2.2.2.2.2.2.2.2.2.2.2.1 rfl ?_
        refine xr_iconst (n := 70) (v := 1) C dd_X1_skippedSet_2.2.2.2.2.2.2.2.2.2.2.2.1 rfl rfl ?_
        refine xr_isub (n := 71) C dd_X1_skippedSet_2.2.2.2.2.2.2.2.2.2.2.2.2.1 rfl ?_
        refine xr_ishl (n := 72) C dd_X1_skippedSet_2.2.2.2.2.2.2.2.2.2.2.2.2.2.1 rfl ?_
        refine xr_iconst (n := 73) (v := -1) C dd_X1_skippedSet_2.2.2.2.2.2.2.2.2.2.2.2.2.2.2.1 rfl rfl ?_
        refine xr_ixor (n := 74) C dd_X1_skippedSet_2.2.2.2.2.2.2.2.2.2.2.2.2.2.2.2.1 rfl ?_
        refine xr_iand (n := 75) C dd_X1_skippedSet_3.1 rfl ?_
        refine xr_goto (tgt := 79) C dd_X1_skippedSet_3.2.1 rfl ?_
        obtain rfl := Option.some.inj hR
        exact ret ((((1 : Int32) <<< (jk &&& 31)) - 1) &&& (((1 : Int32) <<< ((jk - 1) &&& 31)) ^^^ (-1))) ⟨rfl, rfl⟩ (Nat.le_of_ble_eq_true rfl) (Nat.le_of_ble_eq_true rfl) dd_X1_skippedSet_3.2.2.2.1
    refine y_loop (P := fun (s_2 : Int32 × Int32) => X p l e (yR 3 0 0) s m args below meth c D A H0 3 Q [[(j, .inr (3, [.ref ja, .ref jb, .int jr, .int jk, .int jc, .int jg, .int js]))], [(ja, .inr (6, [.ref jan]))], [(jan, .inl (cy 1, 81, .inl jaf))], [(jb, .inr (6, [.ref jbn]))], [(jbn, .inl (cy 1, 81, .inl jbf))]] 0 0 [(0, .ref j), (1, .int s_2.1), (2, .int s_2.2)] 13 []) ?_ _ (0, 0) hb_2
    intro s_2 o_2 ho_2 hk_2 hx_2
    refine xr_iload_n (n := 14) (j := 2) C dd_X1_skippedSet_0.2.2.2.2.2.2.2.2.2.1 rfl rfl ?_
    refine xr_aload_n (n := 15) (j := 0) C dd_X1_skippedSet_0.2.2.2.2.2.2.2.2.2.2.1 rfl rfl ?_
    refine xr_get (n := 18) C 0 rfl rfl 3 (by decide) in_X1 u_115 rfl (v := .int jk) rfl dd_X1_skippedSet_0.2.2.2.2.2.2.2.2.2.2.2.1 rfl ?_
    refine xr_icmp_ge (tgt := 49) (n := 21) C dd_X1_skippedSet_0.2.2.2.2.2.2.2.2.2.2.2.2.1 rfl rfl (fun c_4 => ?_) (fun c_4 => ?_)
    · replace ho_2 := yf_t c_4 ho_2
      refine xr_lv (lv' := [(0, .ref j), (1, .int s_2.1)]) [0, 1] rfl ?_
      have e_5 := hx_2 _ (Option.some.inj ho_2).symm
      subst e_5
      exact K_2
    · replace ho_2 := yf_f c_4 ho_2
      refine xr_aload_n (n := 22) (j := 0) C dd_X1_skippedSet_0.2.2.2.2.2.2.2.2.2.2.2.2.2.1 rfl rfl ?_
      refine xr_iload_n (n := 23) (j := 2) C dd_X1_skippedSet_0.2.2.2.2.2.2.2.2.2.2.2.2.2.2.1 rfl rfl ?_
      obtain ⟨x_6, hx_6, ho_2⟩ := yf_b ho_2
      refine xr_callVp (n := 26) (As := [.int s_2.2]) (rest := []) C (kX1_isLeftNought l D cy (j := j) (ja := ja) (jb := jb) (jr := jr) (jk := jk) (jc := jc) (jg := jg) (js := js) (jan := jan) (jaf := jaf) (it := s_2.2) hx_6) mX1_isLeftNought u_336 u_338 u_1 0 rfl rfl 5 [0, 1, 2] [3, 4] rfl (by decide +kernel) rfl rfl rfl rfl (Nat.le_of_ble_eq_true rfl) (Nat.le_of_ble_eq_true rfl) (Nat.le_of_ble_eq_true rfl) (Nat.le_of_ble_eq_true rfl) (Nat.le_of_ble_eq_true rfl) dd_X1_skippedSet_0.2.2.2.2.2.2.2.2.2.2.2.2.2.2.2.1 rfl (fun _ _ hp => hp.2) (fun v_7 hp_9 => ?_)
      obtain ⟨rfl, -⟩ := hp_9
      refine xr_st (st' := [.int x_6]) rfl ?_
      refine xr_if_ne (tgt := 37) (n := 29) C dd_X1_skippedSet_1.1 rfl rfl (fun c_10 => ?_) (fun c_10 => ?_)
      · replace ho_2 := yf_f c_10 ho_2
        refine xr_iload_n (n := 38) (j := 1) C dd_X1_skippedSet_1.2.2.2.2.2.1 rfl rfl ?_
        refine xr_iconst (n := 39) (v := 1) C dd_X1_skippedSet_1.2.2.2.2.2.2.1 rfl rfl ?_
        refine xr_iload_n (n := 40) (j := 2) C dd_X1_skippedSet_1.2.2.2.2.2.2.2.1 rfl rfl ?_
        refine xr_ishl (n := 41) C dd_X1_skippedSet_1.2.2.2.2.2.2.2.2.1 rfl ?_
        refine xr_ior (n := 42) C dd_X1_skippedSet_1.2.2.2.2.2.2.2.2.2.1 rfl ?_
        obtain ⟨y_11, ey_11, ho_2⟩ := yf_l ho_2
        refine xr_topI ey_11 ?_
        refine xr_istore_n (n := 43) C [(1, .int y_11), (0, .ref j), (2, .int s_2.2)] dd_X1_skippedSet_1.2.2.2.2.2.2.2.2.2.2.1 (by decide) rfl rfl ?_
        refine xr_iinc (j := 2) (v := s_2.2 + 1) (n := 46) C [(2, .int (s_2.2 + 1)), (1, .int y_11), (0, .ref j)] dd_X1_skippedSet_1.2.2.2.2.2.2.2.2.2.2.2.1 rfl rfl (by decide) rfl rfl ?_
        refine xr_goto (tgt := 13) C dd_X1_skippedSet_1.2.2.2.2.2.2.2.2.2.2.2.2.1 rfl ?_
        refine xr_lv (lv' := [(0, .ref j), (1, .int y_11), (2, .int (s_2.2 + 1))]) [2, 1, 0] rfl ?_
        exact hk_2 (y_11, s_2.2 + 1) (Option.some.inj ho_2).symm
      · replace ho_2 := yf_t c_10 ho_2
        refine xr_aload_n (n := 30) (j := 0) C dd_X1_skippedSet_1.2.1 rfl rfl ?_
        refine xr_iload_n (n := 31) (j := 2) C dd_X1_skippedSet_1.2.2.1 rfl rfl ?_
        obtain ⟨x_12, hx_12, ho_2⟩ := yf_b ho_2
        refine xr_callVp (n := 34) (As := [.int s_2.2]) (rest := []) C (kX1_isTopNought l D cy (j := j) (ja := ja) (jb := jb) (jr := jr) (jk := jk) (jc := jc) (jg := jg) (js := js) (jbn := jbn) (jbf := jbf) (it := s_2.2) hx_12) mX1_isTopNought u_344 u_346 u_2 0 rfl rfl 5 [0, 3, 4] [1, 2] rfl (by decide +kernel) rfl rfl rfl rfl (Nat.le_of_ble_eq_true rfl) (Nat.le_of_ble_eq_true rfl) (Nat.le_of_ble_eq_true rfl) (Nat.le_of_ble_eq_true rfl) (Nat.le_of_ble_eq_true rfl) dd_X1_skippedSet_1.2.2.2.1 rfl (fun _ _ hp => hp.2) (fun v_13 hp_15 => ?_)
        obtain ⟨rfl, -⟩ := hp_15
        refine xr_st (st' := [.int x_12]) rfl ?_
        refine xr_if_eq (tgt := 43) (n := 37) C dd_X1_skippedSet_1.2.2.2.2.1 rfl rfl (fun c_16 => ?_) (fun c_16 => ?_)
        · replace ho_2 := yf_t c_16 ho_2
          refine xr_iinc (j := 2) (v := s_2.2 + 1) (n := 46) C [(2, .int (s_2.2 + 1)), (0, .ref j), (1, .int s_2.1)] dd_X1_skippedSet_1.2.2.2.2.2.2.2.2.2.2.2.1 rfl rfl (by decide) rfl rfl ?_
          refine xr_goto (tgt := 13) C dd_X1_skippedSet_1.2.2.2.2.2.2.2.2.2.2.2.2.1 rfl ?_
          refine xr_lv (lv' := [(0, .ref j), (1, .int s_2.1), (2, .int (s_2.2 + 1))]) [1, 2, 0] rfl ?_
          exact hk_2 (s_2.1, s_2.2 + 1) (Option.some.inj ho_2).symm
        · replace ho_2 := yf_f c_16 ho_2
          refine xr_iload_n (n := 38) (j := 1) C dd_X1_skippedSet_1.2.2.2.2.2.1 rfl rfl ?_
          refine xr_iconst (n := 39) (v := 1) C dd_X1_skippedSet_1.2.2.2.2.2.2.1 rfl rfl ?_
          refine xr_iload_n (n := 40) (j := 2) C dd_X1_skippedSet_1.2.2.2.2.2.2.2.1 rfl rfl ?_
          refine xr_ishl (n := 41) C dd_X1_skippedSet_1.2.2.2.2.2.2.2.2.1 rfl ?_
          refine xr_ior (n := 42) C dd_X1_skippedSet_1.2.2.2.2.2.2.2.2.2.1 rfl ?_
          obtain ⟨y_17, ey_17, ho_2⟩ := yf_l ho_2
          refine xr_topI ey_17 ?_
          refine xr_istore_n (n := 43) C [(1, .int y_17), (0, .ref j), (2, .int s_2.2)] dd_X1_skippedSet_1.2.2.2.2.2.2.2.2.2.2.1 (by decide) rfl rfl ?_
          refine xr_iinc (j := 2) (v := s_2.2 + 1) (n := 46) C [(2, .int (s_2.2 + 1)), (1, .int y_17), (0, .ref j)] dd_X1_skippedSet_1.2.2.2.2.2.2.2.2.2.2.2.1 rfl rfl (by decide) rfl rfl ?_
          refine xr_goto (tgt := 13) C dd_X1_skippedSet_1.2.2.2.2.2.2.2.2.2.2.2.2.1 rfl ?_
          refine xr_lv (lv' := [(0, .ref j), (1, .int y_17), (2, .int (s_2.2 + 1))]) [2, 1, 0] rfl ?_
          exact hk_2 (y_17, s_2.2 + 1) (Option.some.inj ho_2).symm
  · replace hR := yf_f c_1 hR
    refine xr_iconst (n := 8) (v := 0) C dd_X1_skippedSet_0.2.2.2.1 rfl rfl ?_
    obtain rfl := Option.some.inj hR
    exact ret 0 ⟨rfl, rfl⟩ (Nat.le_of_ble_eq_true rfl) (Nat.le_of_ble_eq_true rfl) dd_X1_skippedSet_0.2.2.2.2.1
theorem dd_X1_countSteps_0 : dk_R cX1_countSteps [(0, .aload_n 0, 1), (1, .getfield 25, 3), (4, .aload_n 0, 1), (5, .invokevirtual 79, 3), (8, .invokestatic 82, 3), (11, .isub, 1), (12, .ireturn, 1)] := dk_use _ _ (by decide +kernel)
def fX1_countSteps (jr : Int32) (jk : Int32) (jc : Int32) (jg : Int32) (jaf : Nat → Int32) (jbf : Nat → Int32) : Option (Int32) := ((fX1_skippedSet jr jk jc jg jaf jbf).bind fun x_1 => ((fJ6_bitCount_0f7a4 x_1).bind fun x_5 => some (jk - x_5)))
abbrev hX1_countSteps : Cond := .code yX1_countSteps cX1_countSteps 1 (some .int)
theorem mX1_countSteps : yM yX1_countSteps hX1_countSteps 0 := ⟨u_331, u_58, by decide +kernel, by decide +kernel, by decide +kernel⟩
set_option maxHeartbeats 4000000 in
set_option maxRecDepth 100000 in
theorem kX1_countSteps (l : Launch) (D : va_G) (cy : Nat → ClassId) (j : Nat) (ja : Nat) (jb : Nat) (jr : Int32) (jk : Int32) (jc : Int32) (jg : Int32) (js : Int32) (jan : Nat) (jaf : Nat → Int32) (jbn : Nat) (jbf : Nat → Int32) {res : Int32} (hR : fX1_countSteps jr jk jc jg jaf jbf = some res) : YM l D cy yX1_countSteps hX1_countSteps 4 0 0 [.ref j] [[(j, .inr (3, [.ref ja, .ref jb, .int jr, .int jk, .int jc, .int jg, .int js]))], [(ja, .inr (6, [.ref jan]))], [(jan, .inl (cy 1, 81, .inl jaf))], [(jb, .inr (6, [.ref jbn]))], [(jbn, .inl (cy 1, 81, .inl jbf))]] (fun v u => v = some (.int res) ∧ u = [[(j, .inr (3, [.ref ja, .ref jb, .int jr, .int jk, .int jc, .int jg, .int js]))], [(ja, .inr (6, [.ref jan]))], [(jan, .inl (cy 1, 81, .inl jaf))], [(jb, .inr (6, [.ref jbn]))], [(jbn, .inl (cy 1, 81, .inl jbf))]]) := by
  unfold fX1_countSteps at hR
  refine YM.ofI (cc := cX1_countSteps) (maxL := 1) (ret := (some .int)) (by decide +kernel) rfl (Nat.le_of_ble_eq_true rfl) [(0, .ref j)] rfl rfl (fun p e s m args below meth c A H0 Q C hnm ret => ?_)
  refine xr_aload_n (n := 1) (j := 0) C dd_X1_countSteps_0.1 rfl rfl ?_
  refine xr_get (n := 4) C 0 rfl rfl 3 (by decide) in_X1 u_115 rfl (v := .int jk) rfl dd_X1_countSteps_0.2.1 rfl ?_
  refine xr_aload_n (n := 5) (j := 0) C dd_X1_countSteps_0.2.2.1 rfl rfl ?_
  obtain ⟨x_1, hx_1, hR⟩ := yf_b hR
  refine xr_callVp (n := 8) (As := []) (rest := [.int jk]) C (kX1_skippedSet l D cy (j := j) (ja := ja) (jb := jb) (jr := jr) (jk := jk) (jc := jc) (jg := jg) (js := js) (jan := jan) (jaf := jaf) (jbn := jbn) (jbf := jbf) hx_1) mX1_skippedSet u_332 u_333 u_334 0 rfl rfl 5 [0, 1, 2, 3, 4] [] rfl (by decide +kernel) rfl rfl rfl rfl (Nat.le_of_ble_eq_true rfl) (Nat.le_of_ble_eq_true rfl) (Nat.le_of_ble_eq_true rfl) (Nat.le_of_ble_eq_true rfl) (Nat.le_of_ble_eq_true rfl) dd_X1_countSteps_0.2.2.2.1 rfl (fun _ _ hp => hp.2) (fun v_2 hp_4 => ?_)
  obtain ⟨rfl, -⟩ := hp_4
  refine xr_st (st' := [.int x_1, .int jk]) rfl ?_
  obtain ⟨x_5, hx_5, hR⟩ := yf_b hR
  refine xr_callSp (n := 11) (As := [.int x_1]) (rest := [.int jk]) C (kJ6_bitCount_0f7a4 l D cy (i1 := x_1) hx_5) mJ6_bitCount_0f7a4 u_348 u_349 5 [] [0, 1, 2, 3, 4] rfl (by decide +kernel) rfl rfl rfl rfl (Nat.le_of_ble_eq_true rfl) (Nat.le_of_ble_eq_true rfl) (Nat.le_of_ble_eq_true rfl) (Nat.le_of_ble_eq_true rfl) (Nat.le_of_ble_eq_true rfl) dd_X1_countSteps_0.2.2.2.2.1 rfl (fun _ _ hp => hp.2) (fun v_6 hp_8 => ?_)
  obtain ⟨rfl, -⟩ := hp_8
  refine xr_st (st' := [.int x_5, .int jk]) rfl ?_
  refine xr_isub (n := 12) C dd_X1_countSteps_0.2.2.2.2.2.1 rfl ?_
  obtain rfl := Option.some.inj hR
  exact ret (jk - x_5) ⟨rfl, rfl⟩ (Nat.le_of_ble_eq_true rfl) (Nat.le_of_ble_eq_true rfl) dd_X1_countSteps_0.2.2.2.2.2.2.1
theorem dd_X2_countPieces_0 : dk_R cX2_countPieces [(0, .iload_n 1, 1), (1, .iconst 1, 1), (2, .if_icmp .ge 7, 3), (5, .iconst 0, 1), (6, .goto 10, 3), (9, .iload_n 0, 1), (10, .iload_n 1, 1), (11, .iadd, 1), (12, .iconst 1, 1), (13, .isub, 1), (14, .iload_n 1, 1), (15, .idiv, 1), (16, .ireturn, 1)] := dk_use _ _ (by decide +kernel)
def fX2_countPieces (i1 : Int32) (i2 : Int32) : Option (Int32) := (if 1 ≤ i2 then (if ¬ i2 = 0 then some (((i1 + i2) - 1) / i2) else none) else some 0)
abbrev hX2_countPieces : Cond := .code yX2_countPieces cX2_countPieces 2 (some .int)
theorem mX2_countPieces : yM yX2_countPieces hX2_countPieces 2 := ⟨u_361, u_63, by decide +kernel, by decide +kernel, by decide +kernel⟩
set_option maxHeartbeats 4000000 in
set_option maxRecDepth 100000 in
theorem kX2_countPieces (l : Launch) (D : va_G) (cy : Nat → ClassId) (i1 : Int32) (i2 : Int32) {res : Int32} (hR : fX2_countPieces i1 i2 = some res) : YM l D cy yX2_countPieces hX2_countPieces 1 0 0 [.int i1, .int i2] [] (fun v u => v = some (.int res) ∧ u = []) := by
  unfold fX2_countPieces at hR
  refine YM.ofI (cc := cX2_countPieces) (maxL := 2) (ret := (some .int)) (by decide +kernel) rfl (Nat.le_of_ble_eq_true rfl) [(0, .int i1), (1, .int i2)] rfl rfl (fun p e s m args below meth c A H0 Q C hnm ret => ?_)
  refine xr_iload_n (n := 1) (j := 1) C dd_X2_countPieces_0.1 rfl rfl ?_
  refine xr_iconst (n := 2) (v := 1) C dd_X2_countPieces_0.2.1 rfl rfl ?_
  refine xr_icmp_ge (tgt := 9) (n := 5) C dd_X2_countPieces_0.2.2.1 rfl rfl (fun c_1 => ?_) (fun c_1 => ?_)
  · replace hR := yf_t c_1 hR
    refine xr_iload_n (n := 10) (j := 0) C dd_X2_countPieces_0.2.2.2.2.2.1 rfl rfl ?_
    refine xr_iload_n (n := 11) (j := 1) C dd_X2_countPieces_0.2.2.2.2.2.2.1 rfl rfl ?_
    refine xr_iadd (n := 12) C dd_X2_countPieces_0.2.2.2.2.2.2.2.1 rfl ?_
    refine xr_iconst (n := 13) (v := 1) C dd_X2_countPieces_0.2.2.2.2.2.2.2.2.1 rfl rfl ?_
    refine xr_isub (n := 14) C dd_X2_countPieces_0.2.2.2.2.2.2.2.2.2.1 rfl ?_
    refine xr_iload_n (n := 15) (j := 1) C dd_X2_countPieces_0.2.2.2.2.2.2.2.2.2.2.1 rfl rfl ?_
    obtain ⟨g_2, hR⟩ := yf_g hR
    refine xr_idiv (n := 16) C dd_X2_countPieces_0.2.2.2.2.2.2.2.2.2.2.2.1 g_2 rfl ?_
    obtain rfl := Option.some.inj hR
    exact ret (((i1 + i2) - 1) / i2) ⟨rfl, rfl⟩ (Nat.le_of_ble_eq_true rfl) (Nat.le_of_ble_eq_true rfl) dd_X2_countPieces_0.2.2.2.2.2.2.2.2.2.2.2.2.1
  · replace hR := yf_f c_1 hR
    refine xr_iconst (n := 6) (v := 0) C dd_X2_countPieces_0.2.2.2.1 rfl rfl ?_
    refine xr_goto (tgt := 16) C dd_X2_countPieces_0.2.2.2.2.1 rfl ?_
    obtain rfl := Option.some.inj hR
    exact ret 0 ⟨rfl, rfl⟩ (Nat.le_of_ble_eq_true rfl) (Nat.le_of_ble_eq_true rfl) dd_X2_countPieces_0.2.2.2.2.2.2.2.2.2.2.2.2.1
