theorem u_524 : Cond.methodLink RX1 64 yX1_firstSum ∈ yU := yu_tables_1_2 228 (by decide +kernel) (by decide +kernel)
theorem u_525 : Cond.instanceMethod yX1_firstSum ∈ yU := yu_tables_1_2 229 (by decide +kernel) (by decide +kernel)
theorem u_526 : Cond.selects RX1 yX1_firstSum yX1_firstSum ∈ yU := yu_tables_1_2 230 (by decide +kernel) (by decide +kernel)
theorem u_528 : Cond.methodLink RX1 68 yX1_bringIn ∈ yU := yu_tables_1_2 232 (by decide +kernel) (by decide +kernel)
theorem u_529 : Cond.instanceMethod yX1_bringIn ∈ yU := yu_tables_1_2 233 (by decide +kernel) (by decide +kernel)
theorem u_530 : Cond.selects RX1 yX1_bringIn yX1_bringIn ∈ yU := yu_tables_1_2 234 (by decide +kernel) (by decide +kernel)
theorem u_523 : Cond.code yX1_plainOf cX1_plainOf 5 (some .int) ∈ yU := yu_tables_1_2 227 (by decide +kernel) (by decide +kernel)
theorem u_339 : Cond.code yX1_isLeftNought cX1_isLeftNought 3 (some .boolean) ∈ yU := yu_tables_1_2 43 (by decide +kernel) (by decide +kernel)
theorem u_347 : Cond.code yX1_isTopNought cX1_isTopNought 3 (some .boolean) ∈ yU := yu_tables_1_2 51 (by decide +kernel) (by decide +kernel)
theorem u_336 : Cond.methodLink RX1 72 yX1_isLeftNought ∈ yU := yu_tables_1_2 40 (by decide +kernel) (by decide +kernel)
theorem u_338 : Cond.instanceMethod yX1_isLeftNought ∈ yU := yu_tables_1_2 42 (by decide +kernel) (by decide +kernel)
theorem u_1 : Cond.selects RX1 yX1_isLeftNought yX1_isLeftNought ∈ yU := yu 1 (by decide +kernel) (by decide +kernel)
theorem u_344 : Cond.methodLink RX1 76 yX1_isTopNought ∈ yU := yu_tables_1_2 48 (by decide +kernel) (by decide +kernel)
theorem u_346 : Cond.instanceMethod yX1_isTopNought ∈ yU := yu_tables_1_2 50 (by decide +kernel) (by decide +kernel)
theorem u_2 : Cond.selects RX1 yX1_isTopNought yX1_isTopNought ∈ yU := yu 2 (by decide +kernel) (by decide +kernel)
theorem u_335 : Cond.code yX1_skippedSet cX1_skippedSet 3 (some .int) ∈ yU := yu_tables_1_2 39 (by decide +kernel) (by decide +kernel)
theorem u_332 : Cond.methodLink RX1 79 yX1_skippedSet ∈ yU := yu_tables_1_2 36 (by decide +kernel) (by decide +kernel)
theorem u_333 : Cond.instanceMethod yX1_skippedSet ∈ yU := yu_tables_1_2 37 (by decide +kernel) (by decide +kernel)
theorem u_334 : Cond.selects RX1 yX1_skippedSet yX1_skippedSet ∈ yU := yu_tables_1_2 38 (by decide +kernel) (by decide +kernel)
theorem u_348 : Cond.methodLink RX1 82 yJ6_bitCount_0f7a4 ∈ yU := yu_tables_1_2 52 (by decide +kernel) (by decide +kernel)
theorem u_331 : Cond.code yX1_countSteps cX1_countSteps 1 (some .int) ∈ yU := yu_tables_1_2 35 (by decide +kernel) (by decide +kernel)
theorem u_361 : Cond.code yX2_countPieces cX2_countPieces 2 (some .int) ∈ yU := yu_tables_1_2 65 (by decide +kernel) (by decide +kernel)
theorem u_63 : Cond.initialized RX2 ∈ yU := yu_tables_1_1 7 (by decide +kernel) (by decide +kernel)
theorem dX1_plainOf_0 : decode cX1_plainOf 0 = .ok (.aload_n 0, 1) := by decide +kernel
theorem dX1_plainOf_1 : decode cX1_plainOf 1 = .ok (.invokevirtual 64, 3) := by decide +kernel
theorem dX1_plainOf_4 : decode cX1_plainOf 4 = .ok (.istore_n 3, 1) := by decide +kernel
theorem dX1_plainOf_5 : decode cX1_plainOf 5 = .ok (.iconst 0, 1) := by decide +kernel
theorem dX1_plainOf_6 : decode cX1_plainOf 6 = .ok (.istore 4, 2) := by decide +kernel
theorem dX1_plainOf_8 : decode cX1_plainOf 8 = .ok (.iload 4, 2) := by decide +kernel
theorem dX1_plainOf_10 : decode cX1_plainOf 10 = .ok (.aload_n 0, 1) := by decide +kernel
theorem dX1_plainOf_11 : decode cX1_plainOf 11 = .ok (.getfield 25, 3) := by decide +kernel
theorem dX1_plainOf_14 : decode cX1_plainOf 14 = .ok (.if_icmp .ge 19, 3) := by decide +kernel
theorem dX1_plainOf_17 : decode cX1_plainOf 17 = .ok (.aload_n 0, 1) := by decide +kernel
theorem dX1_plainOf_18 : decode cX1_plainOf 18 = .ok (.iload_n 3, 1) := by decide +kernel
theorem dX1_plainOf_19 : decode cX1_plainOf 19 = .ok (.iload_n 1, 1) := by decide +kernel
theorem dX1_plainOf_20 : decode cX1_plainOf 20 = .ok (.iload 4, 2) := by decide +kernel
theorem dX1_plainOf_22 : decode cX1_plainOf 22 = .ok (.iload_n 2, 1) := by decide +kernel
theorem dX1_plainOf_23 : decode cX1_plainOf 23 = .ok (.invokevirtual 68, 3) := by decide +kernel
theorem dX1_plainOf_26 : decode cX1_plainOf 26 = .ok (.istore_n 3, 1) := by decide +kernel
theorem dX1_plainOf_27 : decode cX1_plainOf 27 = .ok (.iinc 4 1, 3) := by decide +kernel
theorem dX1_plainOf_30 : decode cX1_plainOf 30 = .ok (.goto (-22), 3) := by decide +kernel
theorem dX1_plainOf_33 : decode cX1_plainOf 33 = .ok (.iload_n 3, 1) := by decide +kernel
theorem dX1_plainOf_34 : decode cX1_plainOf 34 = .ok (.ireturn, 1) := by decide +kernel
def fX1_plainOf (jr : Int32) (jk : Int32) (jc : Int32) (jg : Int32) (jaf : Nat → Int32) (jbf : Nat → Int32) (i1 : Int32) (i2 : Int32) : Option (Int32) := ((fX1_firstSum jg).bind fun x_1 => ((wl (S := Int32 × Int32) (B := Int32 × Int32) (fun s_5 => (if jk ≤ s_5.2 then some (.inr (s_5.1, s_5.2)) else ((fX1_bringIn jr jc jg jaf jbf s_5.1 i1 s_5.2 i2).bind fun x_8 => some (.inl (x_8, s_5.2 + 1))))) yFuel (x_1, 0)).bind fun b_5 => some b_5.1))
abbrev hX1_plainOf : Cond := .code yX1_plainOf cX1_plainOf 5 (some .int)
theorem mX1_plainOf : yM yX1_plainOf hX1_plainOf 2 := ⟨u_523, u_58, by decide +kernel, by decide +kernel, by decide +kernel⟩
set_option maxHeartbeats 4000000 in
set_option maxRecDepth 100000 in
theorem kX1_plainOf (l : Launch) (D : va_G) (cy : Nat → ClassId) (j : Nat) (ja : Nat) (jb : Nat) (jr : Int32) (jk : Int32) (jc : Int32) (jg : Int32) (js : Int32) (jan : Nat) (jaf : Nat → Int32) (jbn : Nat) (jbf : Nat → Int32) (i1 : Int32) (i2 : Int32) {res : Int32} (hR : fX1_plainOf jr jk jc jg jaf jbf i1 i2 = some res) : YM l D cy yX1_plainOf hX1_plainOf 4 0 0 [.ref j, .int i1, .int i2] [[(j, .inr (3, [.ref ja, .ref jb, .int jr, .int jk, .int jc, .int jg, .int js]))], [(ja, .inr (6, [.ref jan]))], [(jan, .inl (cy 1, 81, .inl jaf))], [(jb, .inr (6, [.ref jbn]))], [(jbn, .inl (cy 1, 81, .inl jbf))]] (fun v u => v = some (.int res) ∧ u = [[(j, .inr (3, [.ref ja, .ref jb, .int jr, .int jk, .int jc, .int jg, .int js]))], [(ja, .inr (6, [.ref jan]))], [(jan, .inl (cy 1, 81, .inl jaf))], [(jb, .inr (6, [.ref jbn]))], [(jbn, .inl (cy 1, 81, .inl jbf))]]) := by
  unfold fX1_plainOf at hR
  refine YM.ofI (cc := cX1_plainOf) (maxL := 5) (ret := (some .int)) (by decide +kernel) rfl (Nat.le_of_ble_eq_true rfl) [(0, .ref j), (1, .int i1), (2, .int i2)] rfl rfl (fun p e s m args below meth c A H0 Q C hnm ret => ?_)
  refine xr_aload_n (n := 1) (j := 0) C dX1_plainOf_0 rfl rfl ?_
  obtain ⟨x_1, hx_1, hR⟩ := yf_b hR
  refine xr_callVp (n := 4) (As := []) (rest := []) C (kX1_firstSum l D cy (j := j) (ja := ja) (jb := jb) (jr := jr) (jk := jk) (jc := jc) (jg := jg) (js := js) hx_1) mX1_firstSum u_524 u_525 u_526 0 rfl rfl 5 [0] [1, 2, 3, 4] rfl (by decide +kernel) rfl rfl rfl rfl (Nat.le_of_ble_eq_true rfl) (Nat.le_of_ble_eq_true rfl) (Nat.le_of_ble_eq_true rfl) (Nat.le_of_ble_eq_true rfl) (Nat.le_of_ble_eq_true rfl) dX1_plainOf_1 rfl (fun _ _ hp => hp.2) (fun v_2 hp_4 => ?_)
  obtain ⟨rfl, -⟩ := hp_4
  refine xr_st (st' := [.int x_1]) rfl ?_
  refine xr_istore_n (n := 5) C [(3, .int x_1), (0, .ref j), (1, .int i1), (2, .int i2)] dX1_plainOf_4 (by decide) rfl rfl ?_
  refine xr_iconst (n := 6) (v := 0) C dX1_plainOf_5 rfl rfl ?_
  refine xr_istore (n := 8) C [(4, .int 0), (3, .int x_1), (0, .ref j), (1, .int i1), (2, .int i2)] dX1_plainOf_6 (by decide) rfl rfl ?_
  refine xr_lv (lv' := [(0, .ref j), (1, .int i1), (2, .int i2), (3, .int x_1), (4, .int 0)]) [2, 3, 4, 1, 0] rfl ?_
  obtain ⟨b_5, hb_5, hR⟩ := yf_b hR
  have K_5 : X p l e (yR 4 0 0) s m args below meth c D A H0 5 Q [[(j, .inr (3, [.ref ja, .ref jb, .int jr, .int jk, .int jc, .int jg, .int js]))], [(ja, .inr (6, [.ref jan]))], [(jan, .inl (cy 1, 81, .inl jaf))], [(jb, .inr (6, [.ref jbn]))], [(jbn, .inl (cy 1, 81, .inl jbf))]] 0 0 [(3, .int b_5.1)] 33 [] := by
    refine xr_iload_n (n := 34) (j := 0) C dX1_plainOf_33 rfl rfl ?_
    obtain rfl := Option.some.inj hR
    exact ret b_5.1 ⟨rfl, rfl⟩ (Nat.le_of_ble_eq_true rfl) (Nat.le_of_ble_eq_true rfl) dX1_plainOf_34
  refine y_loop (P := fun (s_5 : Int32 × Int32) => X p l e (yR 4 0 0) s m args below meth c D A H0 5 Q [[(j, .inr (3, [.ref ja, .ref jb, .int jr, .int jk, .int jc, .int jg, .int js]))], [(ja, .inr (6, [.ref jan]))], [(jan, .inl (cy 1, 81, .inl jaf))], [(jb, .inr (6, [.ref jbn]))], [(jbn, .inl (cy 1, 81, .inl jbf))]] 0 0 [(0, .ref j), (1, .int i1), (2, .int i2), (3, .int s_5.1), (4, .int s_5.2)] 8 []) ?_ _ (x_1, 0) hb_5
  intro s_5 o_5 ho_5 hk_5 hx_5
  refine xr_iload (n := 10) (j := 4) C dX1_plainOf_8 rfl rfl ?_
  refine xr_aload_n (n := 11) (j := 0) C dX1_plainOf_10 rfl rfl ?_
  refine xr_get (n := 14) C 0 rfl rfl 3 (by decide) in_X1 u_115 rfl (v := .int jk) rfl dX1_plainOf_11 rfl ?_
  refine xr_icmp_ge (tgt := 33) (n := 17) C dX1_plainOf_14 rfl rfl (fun c_6 => ?_) (fun c_6 => ?_)
  · replace ho_5 := yf_t c_6 ho_5
    refine xr_lv (lv' := [(3, .int s_5.1)]) [3] rfl ?_
    have e_7 := hx_5 _ (Option.some.inj ho_5).symm
    subst e_7
    exact K_5
  · replace ho_5 := yf_f c_6 ho_5
    refine xr_aload_n (n := 18) (j := 0) C dX1_plainOf_17 rfl rfl ?_
    refine xr_iload_n (n := 19) (j := 3) C dX1_plainOf_18 rfl rfl ?_
    refine xr_iload_n (n := 20) (j := 1) C dX1_plainOf_19 rfl rfl ?_
    refine xr_iload (n := 22) (j := 4) C dX1_plainOf_20 rfl rfl ?_
    refine xr_iload_n (n := 23) (j := 2) C dX1_plainOf_22 rfl rfl ?_
    obtain ⟨x_8, hx_8, ho_5⟩ := yf_b ho_5
    refine xr_callVp (n := 26) (As := [.int s_5.1, .int i1, .int s_5.2, .int i2]) (rest := []) C (kX1_bringIn l D cy (j := j) (ja := ja) (jb := jb) (jr := jr) (jk := jk) (jc := jc) (jg := jg) (js := js) (jan := jan) (jaf := jaf) (jbn := jbn) (jbf := jbf) (i0 := s_5.1) (i1 := i1) (it := s_5.2) (i2 := i2) hx_8) mX1_bringIn u_528 u_529 u_530 0 rfl rfl 5 [0, 1, 2, 3, 4] [] rfl (by decide +kernel) rfl rfl rfl rfl (Nat.le_of_ble_eq_true rfl) (Nat.le_of_ble_eq_true rfl) (Nat.le_of_ble_eq_true rfl) (Nat.le_of_ble_eq_true rfl) (Nat.le_of_ble_eq_true rfl) dX1_plainOf_23 rfl (fun _ _ hp => hp.2) (fun v_9 hp_11 => ?_)
    obtain ⟨rfl, -⟩ := hp_11
    refine xr_st (st' := [.int x_8]) rfl ?_
    refine xr_istore_n (n := 27) C [(3, .int x_8), (0, .ref j), (1, .int i1), (2, .int i2), (4, .int s_5.2)] dX1_plainOf_26 (by decide) rfl rfl ?_
    refine xr_iinc (j := 4) (v := s_5.2 + 1) (n := 30) C [(4, .int (s_5.2 + 1)), (3, .int x_8), (0, .ref j), (1, .int i1), (2, .int i2)] dX1_plainOf_27 rfl rfl (by decide) rfl rfl ?_
    refine xr_goto (tgt := 8) C dX1_plainOf_30 rfl ?_
    refine xr_lv (lv' := [(0, .ref j), (1, .int i1), (2, .int i2), (3, .int x_8), (4, .int (s_5.2 + 1))]) [2, 3, 4, 1, 0] rfl ?_
    exact hk_5 (x_8, s_5.2 + 1) (Option.some.inj ho_5).symm
theorem dX1_isLeftNought_0 : decode cX1_isLeftNought 0 = .ok (.iconst 0, 1) := by decide +kernel
theorem dX1_isLeftNought_1 : decode cX1_isLeftNought 1 = .ok (.istore_n 2, 1) := by decide +kernel
theorem dX1_isLeftNought_2 : decode cX1_isLeftNought 2 = .ok (.iload_n 2, 1) := by decide +kernel
theorem dX1_isLeftNought_3 : decode cX1_isLeftNought 3 = .ok (.aload_n 0, 1) := by decide +kernel
theorem dX1_isLeftNought_4 : decode cX1_isLeftNought 4 = .ok (.getfield 21, 3) := by decide +kernel
theorem dX1_isLeftNought_7 : decode cX1_isLeftNought 7 = .ok (.if_icmp .ge 23, 3) := by decide +kernel
theorem dX1_isLeftNought_10 : decode cX1_isLeftNought 10 = .ok (.aload_n 0, 1) := by decide +kernel
theorem dX1_isLeftNought_11 : decode cX1_isLeftNought 11 = .ok (.getfield 12, 3) := by decide +kernel
theorem dX1_isLeftNought_14 : decode cX1_isLeftNought 14 = .ok (.iload_n 2, 1) := by decide +kernel
theorem dX1_isLeftNought_15 : decode cX1_isLeftNought 15 = .ok (.iload_n 1, 1) := by decide +kernel
theorem dX1_isLeftNought_16 : decode cX1_isLeftNought 16 = .ok (.invokevirtual 46, 3) := by decide +kernel
theorem dX1_isLeftNought_19 : decode cX1_isLeftNought 19 = .ok (.ifCond .eq 5, 3) := by decide +kernel
theorem dX1_isLeftNought_22 : decode cX1_isLeftNought 22 = .ok (.iconst 0, 1) := by decide +kernel
theorem dX1_isLeftNought_23 : decode cX1_isLeftNought 23 = .ok (.ireturn, 1) := by decide +kernel
theorem dX1_isLeftNought_24 : decode cX1_isLeftNought 24 = .ok (.iinc 2 1, 3) := by decide +kernel
theorem dX1_isLeftNought_27 : decode cX1_isLeftNought 27 = .ok (.goto (-25), 3) := by decide +kernel
theorem dX1_isLeftNought_30 : decode cX1_isLeftNought 30 = .ok (.iconst 1, 1) := by decide +kernel
theorem dX1_isLeftNought_31 : decode cX1_isLeftNought 31 = .ok (.ireturn, 1) := by decide +kernel
def fX1_isLeftNought (jr : Int32) (jaf : Nat → Int32) (it : Int32) : Option (Int32) := ((wl (S := Int32) (B := (Int32) ⊕ Int32) (fun s_1 => (if jr ≤ s_1 then some (.inr (.inl s_1)) else ((fX4_get jaf s_1 it).bind fun x_4 => (if x_4 = 0 then some (.inl (s_1 + 1)) else some (.inr (.inr 0)))))) yFuel 0).bind fun b_1 => ybr b_1 (fun z_1 => some 1) (fun r => some r))
abbrev hX1_isLeftNought : Cond := .code yX1_isLeftNought cX1_isLeftNought 3 (some .boolean)
theorem mX1_isLeftNought : yM yX1_isLeftNought hX1_isLeftNought 1 := ⟨u_339, u_58, by decide +kernel, by decide +kernel, by decide +kernel⟩
set_option maxHeartbeats 4000000 in
set_option maxRecDepth 100000 in
theorem kX1_isLeftNought (l : Launch) (D : va_G) (cy : Nat → ClassId) (j : Nat) (ja : Nat) (jb : Nat) (jr : Int32) (jk : Int32) (jc : Int32) (jg : Int32) (js : Int32) (jan : Nat) (jaf : Nat → Int32) (it : Int32) {res : Int32} (hR : fX1_isLeftNought jr jaf it = some res) : YM l D cy yX1_isLeftNought hX1_isLeftNought 2 0 0 [.ref j, .int it] [[(j, .inr (3, [.ref ja, .ref jb, .int jr, .int jk, .int jc, .int jg, .int js]))], [(ja, .inr (6, [.ref jan]))], [(jan, .inl (cy 1, 81, .inl jaf))]] (fun v u => v = some (.int res) ∧ u = [[(j, .inr (3, [.ref ja, .ref jb, .int jr, .int jk, .int jc, .int jg, .int js]))], [(ja, .inr (6, [.ref jan]))], [(jan, .inl (cy 1, 81, .inl jaf))]]) := by
  unfold fX1_isLeftNought at hR
  refine YM.ofZ (cc := cX1_isLeftNought) (maxL := 3) (ret := (some .boolean)) (by decide +kernel) rfl (Nat.le_of_ble_eq_true rfl) [(0, .ref j), (1, .int it)] rfl .boolean rfl (fun p e s m args below meth c A H0 Q C hnm ret => ?_)
  refine xr_iconst (n := 1) (v := 0) C dX1_isLeftNought_0 rfl rfl ?_
  refine xr_istore_n (n := 2) C [(2, .int 0), (0, .ref j), (1, .int it)] dX1_isLeftNought_1 (by decide) rfl rfl ?_
  refine xr_lv (lv' := [(0, .ref j), (1, .int it), (2, .int 0)]) [1, 2, 0] rfl ?_
  obtain ⟨b_1, hb_1, hR⟩ := yf_b hR
  have K_1 : ∀ z_1, b_1 = .inl z_1 → X p l e (yR 2 0 0) s m args below meth c D A H0 3 Q [[(j, .inr (3, [.ref ja, .ref jb, .int jr, .int jk, .int jc, .int jg, .int js]))], [(ja, .inr (6, [.ref jan]))], [(jan, .inl (cy 1, 81, .inl jaf))]] 0 0 [] 30 [] := by
    intro z_1 e_1; subst e_1; replace hR := ybr_l hR
    refine xr_iconst (n := 31) (v := 1) C dX1_isLeftNought_30 rfl rfl ?_
    obtain rfl := Option.some.inj hR
    exact ret 1 (by decide) ⟨rfl, rfl⟩ (Nat.le_of_ble_eq_true rfl) (Nat.le_of_ble_eq_true rfl) dX1_isLeftNought_31
  refine y_loop (P := fun (s_1 : Int32) => X p l e (yR 2 0 0) s m args below meth c D A H0 3 Q [[(j, .inr (3, [.ref ja, .ref jb, .int jr, .int jk, .int jc, .int jg, .int js]))], [(ja, .inr (6, [.ref jan]))], [(jan, .inl (cy 1, 81, .inl jaf))]] 0 0 [(0, .ref j), (1, .int it), (2, .int s_1)] 2 []) ?_ _ 0 hb_1
  intro s_1 o_1 ho_1 hk_1 hx_1
  refine xr_iload_n (n := 3) (j := 2) C dX1_isLeftNought_2 rfl rfl ?_
  refine xr_aload_n (n := 4) (j := 0) C dX1_isLeftNought_3 rfl rfl ?_
  refine xr_get (n := 7) C 0 rfl rfl 2 (by decide) in_X1 u_113 rfl (v := .int jr) rfl dX1_isLeftNought_4 rfl ?_
  refine xr_icmp_ge (tgt := 30) (n := 10) C dX1_isLeftNought_7 rfl rfl (fun c_2 => ?_) (fun c_2 => ?_)
  · replace ho_1 := yf_t c_2 ho_1
    refine xr_lv (lv' := []) [] rfl ?_
    have e_3 := hx_1 _ (Option.some.inj ho_1).symm
    exact K_1 s_1 e_3.symm
  · replace ho_1 := yf_f c_2 ho_1
    refine xr_aload_n (n := 11) (j := 0) C dX1_isLeftNought_10 rfl rfl ?_
    refine xr_get (n := 14) C 0 rfl rfl 0 (by decide) in_X1 u_109 rfl (v := .ref ja) rfl dX1_isLeftNought_11 rfl ?_
    refine xr_iload_n (n := 15) (j := 2) C dX1_isLeftNought_14 rfl rfl ?_
    refine xr_iload_n (n := 16) (j := 1) C dX1_isLeftNought_15 rfl rfl ?_
    obtain ⟨x_4, hx_4, ho_1⟩ := yf_b ho_1
    refine xr_callVp (n := 19) (As := [.int s_1, .int it]) (rest := []) C (kX4_get l D cy (h := ja) (hn := jan) (hf := jaf) (row := s_1) (col := it) hx_4) mX4_get u_340 u_341 u_342 1 rfl rfl 3 [1, 2] [0] rfl (by decide +kernel) rfl rfl rfl rfl (Nat.le_of_ble_eq_true rfl) (Nat.le_of_ble_eq_true rfl) (Nat.le_of_ble_eq_true rfl) (Nat.le_of_ble_eq_true rfl) (Nat.le_of_ble_eq_true rfl) dX1_isLeftNought_16 rfl (fun _ _ hp => hp.2) (fun v_5 hp_7 => ?_)
    obtain ⟨rfl, -⟩ := hp_7
    refine xr_st (st' := [.int x_4]) rfl ?_
    refine xr_if_eq (tgt := 24) (n := 22) C dX1_isLeftNought_19 rfl rfl (fun c_8 => ?_) (fun c_8 => ?_)
    · replace ho_1 := yf_t c_8 ho_1
      refine xr_iinc (j := 2) (v := s_1 + 1) (n := 27) C [(2, .int (s_1 + 1)), (0, .ref j), (1, .int it)] dX1_isLeftNought_24 rfl rfl (by decide) rfl rfl ?_
      refine xr_goto (tgt := 2) C dX1_isLeftNought_27 rfl ?_
      refine xr_lv (lv' := [(0, .ref j), (1, .int it), (2, .int (s_1 + 1))]) [1, 2, 0] rfl ?_
      exact hk_1 (s_1 + 1) (Option.some.inj ho_1).symm
    · replace ho_1 := yf_f c_8 ho_1
      refine xr_iconst (n := 23) (v := 0) C dX1_isLeftNought_22 rfl rfl ?_
      have e_9 := hx_1 _ (Option.some.inj ho_1).symm
      subst e_9
      replace hR := ybr_r hR
      obtain rfl := Option.some.inj hR
      exact ret 0 (by decide) ⟨rfl, rfl⟩ (Nat.le_of_ble_eq_true rfl) (Nat.le_of_ble_eq_true rfl) dX1_isLeftNought_23
theorem dX1_isTopNought_0 : decode cX1_isTopNought 0 = .ok (.iconst 0, 1) := by decide +kernel
theorem dX1_isTopNought_1 : decode cX1_isTopNought 1 = .ok (.istore_n 2, 1) := by decide +kernel
theorem dX1_isTopNought_2 : decode cX1_isTopNought 2 = .ok (.iload_n 2, 1) := by decide +kernel
theorem dX1_isTopNought_3 : decode cX1_isTopNought 3 = .ok (.aload_n 0, 1) := by decide +kernel
theorem dX1_isTopNought_4 : decode cX1_isTopNought 4 = .ok (.getfield 28, 3) := by decide +kernel
theorem dX1_isTopNought_7 : decode cX1_isTopNought 7 = .ok (.if_icmp .ge 23, 3) := by decide +kernel
theorem dX1_isTopNought_10 : decode cX1_isTopNought 10 = .ok (.aload_n 0, 1) := by decide +kernel
theorem dX1_isTopNought_11 : decode cX1_isTopNought 11 = .ok (.getfield 18, 3) := by decide +kernel
theorem dX1_isTopNought_14 : decode cX1_isTopNought 14 = .ok (.iload_n 1, 1) := by decide +kernel
theorem dX1_isTopNought_15 : decode cX1_isTopNought 15 = .ok (.iload_n 2, 1) := by decide +kernel
theorem dX1_isTopNought_16 : decode cX1_isTopNought 16 = .ok (.invokevirtual 46, 3) := by decide +kernel
theorem dX1_isTopNought_19 : decode cX1_isTopNought 19 = .ok (.ifCond .eq 5, 3) := by decide +kernel
theorem dX1_isTopNought_22 : decode cX1_isTopNought 22 = .ok (.iconst 0, 1) := by decide +kernel
theorem dX1_isTopNought_23 : decode cX1_isTopNought 23 = .ok (.ireturn, 1) := by decide +kernel
theorem dX1_isTopNought_24 : decode cX1_isTopNought 24 = .ok (.iinc 2 1, 3) := by decide +kernel
theorem dX1_isTopNought_27 : decode cX1_isTopNought 27 = .ok (.goto (-25), 3) := by decide +kernel
theorem dX1_isTopNought_30 : decode cX1_isTopNought 30 = .ok (.iconst 1, 1) := by decide +kernel
theorem dX1_isTopNought_31 : decode cX1_isTopNought 31 = .ok (.ireturn, 1) := by decide +kernel
def fX1_isTopNought (jc : Int32) (jbf : Nat → Int32) (it : Int32) : Option (Int32) := ((wl (S := Int32) (B := (Int32) ⊕ Int32) (fun s_1 => (if jc ≤ s_1 then some (.inr (.inl s_1)) else ((fX4_get jbf it s_1).bind fun x_4 => (if x_4 = 0 then some (.inl (s_1 + 1)) else some (.inr (.inr 0)))))) yFuel 0).bind fun b_1 => ybr b_1 (fun z_1 => some 1) (fun r => some r))
abbrev hX1_isTopNought : Cond := .code yX1_isTopNought cX1_isTopNought 3 (some .boolean)
theorem mX1_isTopNought : yM yX1_isTopNought hX1_isTopNought 1 := ⟨u_347, u_58, by decide +kernel, by decide +kernel, by decide +kernel⟩
set_option maxHeartbeats 4000000 in
set_option maxRecDepth 100000 in
theorem kX1_isTopNought (l : Launch) (D : va_G) (cy : Nat → ClassId) (j : Nat) (ja : Nat) (jb : Nat) (jr : Int32) (jk : Int32) (jc : Int32) (jg : Int32) (js : Int32) (jbn : Nat) (jbf : Nat → Int32) (it : Int32) {res : Int32} (hR : fX1_isTopNought jc jbf it = some res) : YM l D cy yX1_isTopNought hX1_isTopNought 2 0 0 [.ref j, .int it] [[(j, .inr (3, [.ref ja, .ref jb, .int jr, .int jk, .int jc, .int jg, .int js]))], [(jb, .inr (6, [.ref jbn]))], [(jbn, .inl (cy 1, 81, .inl jbf))]] (fun v u => v = some (.int res) ∧ u = [[(j, .inr (3, [.ref ja, .ref jb, .int jr, .int jk, .int jc, .int jg, .int js]))], [(jb, .inr (6, [.ref jbn]))], [(jbn, .inl (cy 1, 81, .inl jbf))]]) := by
  unfold fX1_isTopNought at hR
  refine YM.ofZ (cc := cX1_isTopNought) (maxL := 3) (ret := (some .boolean)) (by decide +kernel) rfl (Nat.le_of_ble_eq_true rfl) [(0, .ref j), (1, .int it)] rfl .boolean rfl (fun p e s m args below meth c A H0 Q C hnm ret => ?_)
  refine xr_iconst (n := 1) (v := 0) C dX1_isTopNought_0 rfl rfl ?_
  refine xr_istore_n (n := 2) C [(2, .int 0), (0, .ref j), (1, .int it)] dX1_isTopNought_1 (by decide) rfl rfl ?_
  refine xr_lv (lv' := [(0, .ref j), (1, .int it), (2, .int 0)]) [1, 2, 0] rfl ?_
  obtain ⟨b_1, hb_1, hR⟩ := yf_b hR
  have K_1 : ∀ z_1, b_1 = .inl z_1 → X p l e (yR 2 0 0) s m args below meth c D A H0 3 Q [[(j, .inr (3, [.ref ja, .ref jb, .int jr, .int jk, .int jc, .int jg, .int js]))], [(jb, .inr (6, [.ref jbn]))], [(jbn, .inl (cy 1, 81, .inl jbf))]] 0 0 [] 30 [] := by
    intro z_1 e_1; subst e_1; replace hR := ybr_l hR
    refine xr_iconst (n := 31) (v := 1) C dX1_isTopNought_30 rfl rfl ?_
    obtain rfl := Option.some.inj hR
    exact ret 1 (by decide) ⟨rfl, rfl⟩ (Nat.le_of_ble_eq_true rfl) (Nat.le_of_ble_eq_true rfl) dX1_isTopNought_31
  refine y_loop (P := fun (s_1 : Int32) => X p l e (yR 2 0 0) s m args below meth c D A H0 3 Q [[(j, .inr (3, [.ref ja, .ref jb, .int jr, .int jk, .int jc, .int jg, .int js]))], [(jb, .inr (6, [.ref jbn]))], [(jbn, .inl (cy 1, 81, .inl jbf))]] 0 0 [(0, .ref j), (1, .int it), (2, .int s_1)] 2 []) ?_ _ 0 hb_1
  intro s_1 o_1 ho_1 hk_1 hx_1
  refine xr_iload_n (n := 3) (j := 2) C dX1_isTopNought_2 rfl rfl ?_
  refine xr_aload_n (n := 4) (j := 0) C dX1_isTopNought_3 rfl rfl ?_
  refine xr_get (n := 7) C 0 rfl rfl 4 (by decide) in_X1 u_117 rfl (v := .int jc) rfl dX1_isTopNought_4 rfl ?_
  refine xr_icmp_ge (tgt := 30) (n := 10) C dX1_isTopNought_7 rfl rfl (fun c_2 => ?_) (fun c_2 => ?_)
  · replace ho_1 := yf_t c_2 ho_1
    refine xr_lv (lv' := []) [] rfl ?_
    have e_3 := hx_1 _ (Option.some.inj ho_1).symm
    exact K_1 s_1 e_3.symm
  · replace ho_1 := yf_f c_2 ho_1
    refine xr_aload_n (n := 11) (j := 0) C dX1_isTopNought_10 rfl rfl ?_
    refine xr_get (n := 14) C 0 rfl rfl 1 (by decide) in_X1 u_111 rfl (v := .ref jb) rfl dX1_isTopNought_11 rfl ?_
    refine xr_iload_n (n := 15) (j := 1) C dX1_isTopNought_14 rfl rfl ?_
    refine xr_iload_n (n := 16) (j := 2) C dX1_isTopNought_15 rfl rfl ?_
    obtain ⟨x_4, hx_4, ho_1⟩ := yf_b ho_1
    refine xr_callVp (n := 19) (As := [.int it, .int s_1]) (rest := []) C (kX4_get l D cy (h := jb) (hn := jbn) (hf := jbf) (row := it) (col := s_1) hx_4) mX4_get u_340 u_341 u_342 1 rfl rfl 3 [1, 2] [0] rfl (by decide +kernel) rfl rfl rfl rfl (Nat.le_of_ble_eq_true rfl) (Nat.le_of_ble_eq_true rfl) (Nat.le_of_ble_eq_true rfl) (Nat.le_of_ble_eq_true rfl) (Nat.le_of_ble_eq_true rfl) dX1_isTopNought_16 rfl (fun _ _ hp => hp.2) (fun v_5 hp_7 => ?_)
    obtain ⟨rfl, -⟩ := hp_7
    refine xr_st (st' := [.int x_4]) rfl ?_
    refine xr_if_eq (tgt := 24) (n := 22) C dX1_isTopNought_19 rfl rfl (fun c_8 => ?_) (fun c_8 => ?_)
    · replace ho_1 := yf_t c_8 ho_1
      refine xr_iinc (j := 2) (v := s_1 + 1) (n := 27) C [(2, .int (s_1 + 1)), (0, .ref j), (1, .int it)] dX1_isTopNought_24 rfl rfl (by decide) rfl rfl ?_
      refine xr_goto (tgt := 2) C dX1_isTopNought_27 rfl ?_
      refine xr_lv (lv' := [(0, .ref j), (1, .int it), (2, .int (s_1 + 1))]) [1, 2, 0] rfl ?_
      exact hk_1 (s_1 + 1) (Option.some.inj ho_1).symm
    · replace ho_1 := yf_f c_8 ho_1
      refine xr_iconst (n := 23) (v := 0) C dX1_isTopNought_22 rfl rfl ?_
      have e_9 := hx_1 _ (Option.some.inj ho_1).symm
      subst e_9
      replace hR := ybr_r hR
      obtain rfl := Option.some.inj hR
      exact ret 0 (by decide) ⟨rfl, rfl⟩ (Nat.le_of_ble_eq_true rfl) (Nat.le_of_ble_eq_true rfl) dX1_isTopNought_23
theorem dX1_skippedSet_0 : decode cX1_skippedSet 0 = .ok (.aload_n 0, 1) := by decide +kernel
theorem dX1_skippedSet_1 : decode cX1_skippedSet 1 = .ok (.getfield 31, 3) := by decide +kernel
theorem dX1_skippedSet_4 : decode cX1_skippedSet 4 = .ok (.ifCond .eq 5, 3) := by decide +kernel
theorem dX1_skippedSet_7 : decode cX1_skippedSet 7 = .ok (.iconst 0, 1) := by decide +kernel
theorem dX1_skippedSet_8 : decode cX1_skippedSet 8 = .ok (.ireturn, 1) := by decide +kernel
theorem dX1_skippedSet_9 : decode cX1_skippedSet 9 = .ok (.iconst 0, 1) := by decide +kernel
theorem dX1_skippedSet_10 : decode cX1_skippedSet 10 = .ok (.istore_n 1, 1) := by decide +kernel
theorem dX1_skippedSet_11 : decode cX1_skippedSet 11 = .ok (.iconst 0, 1) := by decide +kernel
theorem dX1_skippedSet_12 : decode cX1_skippedSet 12 = .ok (.istore_n 2, 1) := by decide +kernel
theorem dX1_skippedSet_13 : decode cX1_skippedSet 13 = .ok (.iload_n 2, 1) := by decide +kernel
theorem dX1_skippedSet_14 : decode cX1_skippedSet 14 = .ok (.aload_n 0, 1) := by decide +kernel
theorem dX1_skippedSet_15 : decode cX1_skippedSet 15 = .ok (.getfield 25, 3) := by decide +kernel
theorem dX1_skippedSet_18 : decode cX1_skippedSet 18 = .ok (.if_icmp .ge 31, 3) := by decide +kernel
theorem dX1_skippedSet_21 : decode cX1_skippedSet 21 = .ok (.aload_n 0, 1) := by decide +kernel
theorem dX1_skippedSet_22 : decode cX1_skippedSet 22 = .ok (.iload_n 2, 1) := by decide +kernel
theorem dX1_skippedSet_23 : decode cX1_skippedSet 23 = .ok (.invokevirtual 72, 3) := by decide +kernel
theorem dX1_skippedSet_26 : decode cX1_skippedSet 26 = .ok (.ifCond .ne 11, 3) := by decide +kernel
theorem dX1_skippedSet_29 : decode cX1_skippedSet 29 = .ok (.aload_n 0, 1) := by decide +kernel
theorem dX1_skippedSet_30 : decode cX1_skippedSet 30 = .ok (.iload_n 2, 1) := by decide +kernel
theorem dX1_skippedSet_31 : decode cX1_skippedSet 31 = .ok (.invokevirtual 76, 3) := by decide +kernel
theorem dX1_skippedSet_34 : decode cX1_skippedSet 34 = .ok (.ifCond .eq 9, 3) := by decide +kernel
theorem dX1_skippedSet_37 : decode cX1_skippedSet 37 = .ok (.iload_n 1, 1) := by decide +kernel
theorem dX1_skippedSet_38 : decode cX1_skippedSet 38 = .ok (.iconst 1, 1) := by decide +kernel
theorem dX1_skippedSet_39 : decode cX1_skippedSet 39 = .ok (.iload_n 2, 1) := by decide +kernel
theorem dX1_skippedSet_40 : decode cX1_skippedSet 40 = .ok (.ishl, 1) := by decide +kernel
theorem dX1_skippedSet_41 : decode cX1_skippedSet 41 = .ok (.ior, 1) := by decide +kernel
theorem dX1_skippedSet_42 : decode cX1_skippedSet 42 = .ok (.istore_n 1, 1) := by decide +kernel
theorem dX1_skippedSet_43 : decode cX1_skippedSet 43 = .ok (.iinc 2 1, 3) := by decide +kernel
theorem dX1_skippedSet_46 : decode cX1_skippedSet 46 = .ok (.goto (-33), 3) := by decide +kernel
theorem dX1_skippedSet_49 : decode cX1_skippedSet 49 = .ok (.iconst 1, 1) := by decide +kernel
theorem dX1_skippedSet_50 : decode cX1_skippedSet 50 = .ok (.aload_n 0, 1) := by decide +kernel
theorem dX1_skippedSet_51 : decode cX1_skippedSet 51 = .ok (.getfield 25, 3) := by decide +kernel
theorem dX1_skippedSet_54 : decode cX1_skippedSet 54 = .ok (.ishl, 1) := by decide +kernel
theorem dX1_skippedSet_55 : decode cX1_skippedSet 55 = .ok (.iconst 1, 1) := by decide +kernel
theorem dX1_skippedSet_56 : decode cX1_skippedSet 56 = .ok (.isub, 1) := by decide +kernel
theorem dX1_skippedSet_57 : decode cX1_skippedSet 57 = .ok (.istore_n 2, 1) := by decide +kernel
theorem dX1_skippedSet_58 : decode cX1_skippedSet 58 = .ok (.iload_n 1, 1) := by decide +kernel
theorem dX1_skippedSet_59 : decode cX1_skippedSet 59 = .ok (.iload_n 2, 1) := by decide +kernel
theorem dX1_skippedSet_60 : decode cX1_skippedSet 60 = .ok (.if_icmp .ne 18, 3) := by decide +kernel
theorem dX1_skippedSet_63 : decode cX1_skippedSet 63 = .ok (.iload_n 2, 1) := by decide +kernel
theorem dX1_skippedSet_64 : decode cX1_skippedSet 64 = .ok (.iconst 1, 1) := by decide +kernel
theorem dX1_skippedSet_65 : decode cX1_skippedSet 65 = .ok (.aload_n 0, 1) := by decide +kernel
theorem dX1_skippedSet_66 : decode cX1_skippedSet 66 = .ok (.getfield 25, 3) := by decide +kernel
theorem dX1_skippedSet_69 : decode cX1_skippedSet 69 = .ok (.iconst 1, 1) := by decide +kernel
theorem dX1_skippedSet_70 : decode cX1_skippedSet 70 = .ok (.isub, 1) := by decide +kernel
theorem dX1_skippedSet_71 : decode cX1_skippedSet 71 = .ok (.ishl, 1) := by decide +kernel
theorem dX1_skippedSet_72 : decode cX1_skippedSet 72 = .ok (.iconst (-1), 1) := by decide +kernel
theorem dX1_skippedSet_73 : decode cX1_skippedSet 73 = .ok (.ixor, 1) := by decide +kernel
theorem dX1_skippedSet_74 : decode cX1_skippedSet 74 = .ok (.iand, 1) := by decide +kernel
theorem dX1_skippedSet_75 : decode cX1_skippedSet 75 = .ok (.goto 4, 3) := by decide +kernel
theorem dX1_skippedSet_78 : decode cX1_skippedSet 78 = .ok (.iload_n 1, 1) := by decide +kernel
theorem dX1_skippedSet_79 : decode cX1_skippedSet 79 = .ok (.ireturn, 1) := by decide +kernel
def fX1_skippedSet (jr : Int32) (jk : Int32) (jc : Int32) (jg : Int32) (jaf : Nat → Int32) (jbf : Nat → Int32) : Option (Int32) := (if jg = 0 then ((wl (S := Int32 × Int32) (B := Int32 × Int32) (fun s_2 => (if jk ≤ s_2.2 then some (.inr (s_2.1, s_2.2)) else ((fX1_isLeftNought jr jaf s_2.2).bind fun x_6 => (if x_6 = 0 then ((fX1_isTopNought jc jbf s_2.2).bind fun x_12 => (if x_12 = 0 then some (.inl (s_2.1, s_2.2 + 1)) else (ylet (s_2.1 ||| ((1 : Int32) <<< (s_2.2 &&& 31)) : Int32) fun y_17 => some (.inl (y_17, s_2.2 + 1))))) else (ylet (s_2.1 ||| ((1 : Int32) <<< (s_2.2 &&& 31)) : Int32) fun y_11 => some (.inl (y_11, s_2.2 + 1))))))) yFuel (0, 0)).bind fun b_2 => (if b_2.1 = (((1 : Int32) <<< (jk &&& 31)) - 1) then some ((((1 : Int32) <<< (jk &&& 31)) - 1) &&& (((1 : Int32) <<< ((jk - 1) &&& 31)) ^^^ (-1))) else some b_2.1)) else some 0)
abbrev hX1_skippedSet : Cond := .code yX1_skippedSet cX1_skippedSet 3 (some .int)
theorem mX1_skippedSet : yM yX1_skippedSet hX1_skippedSet 0 := ⟨u_335, u_58, by decide +kernel, by decide +kernel, by decide +kernel⟩
set_option maxHeartbeats 4000000 in
set_option maxRecDepth 100000 in
theorem kX1_skippedSet (l : Launch) (D : va_G) (cy : Nat → ClassId) (j : Nat) (ja : Nat) (jb : Nat) (jr : Int32) (jk : Int32) (jc : Int32) (jg : Int32) (js : Int32) (jan : Nat) (jaf : Nat → Int32) (jbn : Nat) (jbf : Nat → Int32) {res : Int32} (hR : fX1_skippedSet jr jk jc jg jaf jbf = some res) : YM l D cy yX1_skippedSet hX1_skippedSet 3 0 0 [.ref j] [[(j, .inr (3, [.ref ja, .ref jb, .int jr, .int jk, .int jc, .int jg, .int js]))], [(ja, .inr (6, [.ref jan]))], [(jan, .inl (cy 1, 81, .inl jaf))], [(jb, .inr (6, [.ref jbn]))], [(jbn, .inl (cy 1, 81, .inl jbf))]] (fun v u => v = some (.int res) ∧ u = [[(j, .inr (3, [.ref ja, .ref jb, .int jr, .int jk, .int jc, .int jg, .int js]))], [(ja, .inr (6, [.ref jan]))], [(jan, .inl (cy 1, 81, .inl jaf))], [(jb, .inr (6, [.ref jbn]))], [(jbn, .inl (cy 1, 81, .inl jbf))]]) := by
  unfold fX1_skippedSet at hR
  refine YM.ofI (cc := cX1_skippedSet) (maxL := 3) (ret := (some .int)) (by decide +kernel) rfl (Nat.le_of_ble_eq_true rfl) [(0, .ref j)] rfl rfl (fun p e s m args below meth c A H0 Q C hnm ret => ?_)
  refine xr_aload_n (n := 1) (j := 0) C dX1_skippedSet_0 rfl rfl ?_
  refine xr_get (n := 4) C 0 rfl rfl 5 (by decide) in_X1 u_119 rfl (v := .int jg) rfl dX1_skippedSet_1 rfl ?_
  refine xr_if_eq (tgt := 9) (n := 7) C dX1_skippedSet_4 rfl rfl (fun c_1 => ?_) (fun c_1 => ?_)
  · replace hR := yf_t c_1 hR
    refine xr_iconst (n := 10) (v := 0) C dX1_skippedSet_9 rfl rfl ?_
    refine xr_istore_n (n := 11) C [(1, .int 0), (0, .ref j)] dX1_skippedSet_10 (by decide) rfl rfl ?_
    refine xr_iconst (n := 12) (v := 0) C dX1_skippedSet_11 rfl rfl ?_
    refine xr_istore_n (n := 13) C [(2, .int 0), (1, .int 0), (0, .ref j)] dX1_skippedSet_12 (by decide) rfl rfl ?_
    refine xr_lv (lv' := [(0, .ref j), (1, .int 0), (2, .int 0)]) [2, 1, 0] rfl ?_
    obtain ⟨b_2, hb_2, hR⟩ := yf_b hR
    have K_2 : X p l e (yR 3 0 0) s m args below meth c D A H0 3 Q [[(j, .inr (3, [.ref ja, .ref jb, .int jr, .int jk, .int jc, .int jg, .int js]))], [(ja, .inr (6, [.ref jan]))], [(jan, .inl (cy 1, 81, .inl jaf))], [(jb, .inr (6, [.ref jbn]))], [(jbn, .inl (cy 1, 81, .inl jbf))]] 0 0 [(0, .ref j), (1, .int b_2.1)] 49 [] := by
      refine xr_iconst (n := 50) (v := 1) C dX1_skippedSet_49 rfl rfl ?_
      refine xr_aload_n (n := 51) (j := 0) C dX1_skippedSet_50 rfl rfl ?_
      refine xr_get (n := 54) C 0 rfl rfl 3 (by decide) in_X1 u_115 rfl (v := .int jk) rfl dX1_skippedSet_51 rfl ?_
      refine xr_ishl (n := 55) C dX1_skippedSet_54 rfl ?_
      refine xr_iconst (n := 56) (v := 1) C dX1_skippedSet_55 rfl rfl ?_
      refine xr_isub (n := 57) C dX1_skippedSet_56 rfl ?_
      refine xr_istore_n (n := 58) C [(2, .int (((1 : Int32) <<< (jk &&& 31)) - 1)), (0, .ref j), (1, .int b_2.1)] dX1_skippedSet_57 (by decide) rfl rfl ?_
      refine xr_iload_n (n := 59) (j := 2) C dX1_skippedSet_58 rfl rfl ?_
      refine xr_iload_n (n := 60) (j := 0) C dX1_skippedSet_59 rfl rfl ?_
      refine xr_icmp_ne (tgt := 78) (n := 63) C dX1_skippedSet_60 rfl rfl (fun c_3 => ?_) (fun c_3 => ?_)
      · replace hR := yf_f c_3 hR
        refine xr_iload_n (n := 79) (j := 2) C dX1_skippedSet_78 rfl rfl ?_
        obtain rfl := Option.some.inj hR
        exact ret b_2.1 ⟨rfl, rfl⟩ (Nat.le_of_ble_eq_true rfl) (Nat.le_of_ble_eq_true rfl) dX1_skippedSet_79
      · replace hR := yf_t c_3 hR
        refine xr_iload_n (n := 64) (j := 0) C dX1_skippedSet_63 rfl rfl ?_
        refine xr_iconst (n := 65) (v := 1) C dX1_skippedSet_64 rfl rfl ?_
        refine xr_aload_n (n := 66) (j := 1) C dX1_skippedSet_65 rfl rfl ?_
        refine xr_get (n := 69) C 0 rfl rfl 3 (by decide) in_X1 u_115 rfl (v := .int jk) rfl dX1_skippedSet_66 rfl ?_
        refine xr_iconst (n := 70) (v := 1) C dX1_skippedSet_69 rfl rfl ?_
        refine xr_isub (n := 71) C dX1_skippedSet_70 rfl ?_
        refine xr_ishl (n := 72) C dX1_skippedSet_71 rfl ?_
        refine xr_iconst (n := 73) (v := -1) C dX1_skippedSet_72 rfl rfl ?_
        refine xr_ixor (n := 74) C dX1_skippedSet_73 rfl ?_
        refine xr_iand (n := 75) C dX1_skippedSet_74 rfl ?_
        refine xr_goto (tgt := 79) C dX1_skippedSet_75 rfl ?_
        obtain rfl := Option.some.inj hR
        exact ret ((((1 : Int32) <<< (jk &&& 31)) - 1) &&& (((1 : Int32) <<< ((jk - 1) &&& 31)) ^^^ (-1))) ⟨rfl, rfl⟩ (Nat.le_of_ble_eq_true rfl) (Nat.le_of_ble_eq_true rfl) dX1_skippedSet_79
    refine y_loop (P := fun (s_2 : Int32 × Int32) => X p l e (yR 3 0 0) s m args below meth c D A H0 3 Q [[(j, .inr (3, [.ref ja, .ref jb, .int jr, .int jk, .int jc, .int jg, .int js]))], [(ja, .inr (6, [.ref jan]))], [(jan, .inl (cy 1, 81, .inl jaf))], [(jb, .inr (6, [.ref jbn]))], [(jbn, .inl (cy 1, 81, .inl jbf))]] 0 0 [(0, .ref j), (1, .int s_2.1), (2, .int s_2.2)] 13 []) ?_ _ (0, 0) hb_2
    intro s_2 o_2 ho_2 hk_2 hx_2
    refine xr_iload_n (n := 14) (j := 2) C dX1_skippedSet_13 rfl rfl ?_
    refine xr_aload_n (n := 15) (j := 0) C dX1_skippedSet_14 rfl rfl ?_
    refine xr_get (n := 18) C 0 rfl rfl 3 (by decide) in_X1 u_115 rfl (v := .int jk) rfl dX1_skippedSet_15 rfl ?_
    refine xr_icmp_ge (tgt := 49) (n := 21) C dX1_skippedSet_18 rfl rfl (fun c_4 => ?_) (fun c_4 => ?_)
    · replace ho_2 := yf_t c_4 ho_2
      refine xr_lv (lv' := [(0, .ref j), (1, .int s_2.1)]) [0, 1] rfl ?_
      have e_5 := hx_2 _ (Option.some.inj ho_2).symm
      subst e_5
      exact K_2
    · replace ho_2 := yf_f c_4 ho_2
      refine xr_aload_n (n := 22) (j := 0) C dX1_skippedSet_21 rfl rfl ?_
      refine xr_iload_n (n := 23) (j := 2) C dX1_skippedSet_22 rfl rfl ?_
      obtain ⟨x_6, hx_6, ho_2⟩ := yf_b ho_2
      refine xr_callVp (n := 26) (As := [.int s_2.2]) (rest := []) C (kX1_isLeftNought l D cy (j := j) (ja := ja) (jb := jb) (jr := jr) (jk := jk) (jc := jc) (jg := jg) (js := js) (jan := jan) (jaf := jaf) (it := s_2.2) hx_6) mX1_isLeftNought u_336 u_338 u_1 0 rfl rfl 5 [0, 1, 2] [3, 4] rfl (by decide +kernel) rfl rfl rfl rfl (Nat.le_of_ble_eq_true rfl) (Nat.le_of_ble_eq_true rfl) (Nat.le_of_ble_eq_true rfl) (Nat.le_of_ble_eq_true rfl) (Nat.le_of_ble_eq_true rfl) dX1_skippedSet_23 rfl (fun _ _ hp => hp.2) (fun v_7 hp_9 => ?_)
      obtain ⟨rfl, -⟩ := hp_9
      refine xr_st (st' := [.int x_6]) rfl ?_
      refine xr_if_ne (tgt := 37) (n := 29) C dX1_skippedSet_26 rfl rfl (fun c_10 => ?_) (fun c_10 => ?_)
      · replace ho_2 := yf_f c_10 ho_2
        refine xr_iload_n (n := 38) (j := 1) C dX1_skippedSet_37 rfl rfl ?_
        refine xr_iconst (n := 39) (v := 1) C dX1_skippedSet_38 rfl rfl ?_
        refine xr_iload_n (n := 40) (j := 2) C dX1_skippedSet_39 rfl rfl ?_
        refine xr_ishl (n := 41) C dX1_skippedSet_40 rfl ?_
        refine xr_ior (n := 42) C dX1_skippedSet_41 rfl ?_
        obtain ⟨y_11, ey_11, ho_2⟩ := yf_l ho_2
        refine xr_topI ey_11 ?_
        refine xr_istore_n (n := 43) C [(1, .int y_11), (0, .ref j), (2, .int s_2.2)] dX1_skippedSet_42 (by decide) rfl rfl ?_
        refine xr_iinc (j := 2) (v := s_2.2 + 1) (n := 46) C [(2, .int (s_2.2 + 1)), (1, .int y_11), (0, .ref j)] dX1_skippedSet_43 rfl rfl (by decide) rfl rfl ?_
        refine xr_goto (tgt := 13) C dX1_skippedSet_46 rfl ?_
        refine xr_lv (lv' := [(0, .ref j), (1, .int y_11), (2, .int (s_2.2 + 1))]) [2, 1, 0] rfl ?_
        exact hk_2 (y_11, s_2.2 + 1) (Option.some.inj ho_2).symm
      · replace ho_2 := yf_t c_10 ho_2
        refine xr_aload_n (n := 30) (j := 0) C dX1_skippedSet_29 rfl rfl ?_
        refine xr_iload_n (n := 31) (j := 2) C dX1_skippedSet_30 rfl rfl ?_
        obtain ⟨x_12, hx_12, ho_2⟩ := yf_b ho_2
        refine xr_callVp (n := 34) (As := [.int s_2.2]) (rest := []) C (kX1_isTopNought l D cy (j := j) (ja := ja) (jb := jb) (jr := jr) (jk := jk) (jc := jc) (jg := jg) (js := js) (jbn := jbn) (jbf := jbf) (it := s_2.2) hx_12) mX1_isTopNought u_344 u_346 u_2 0 rfl rfl 5 [0, 3, 4] [1, 2] rfl (by decide +kernel) rfl rfl rfl rfl (Nat.le_of_ble_eq_true rfl) (Nat.le_of_ble_eq_true rfl) (Nat.le_of_ble_eq_true rfl) (Nat.le_of_ble_eq_true rfl) (Nat.le_of_ble_eq_true rfl) dX1_skippedSet_31 rfl (fun _ _ hp => hp.2) (fun v_13 hp_15 => ?_)
        obtain ⟨rfl, -⟩ := hp_15
        refine xr_st (st' := [.int x_12]) rfl ?_
        refine xr_if_eq (tgt := 43) (n := 37) C dX1_skippedSet_34 rfl rfl (fun c_16 => ?_) (fun c_16 => ?_)
        · replace ho_2 := yf_t c_16 ho_2
          refine xr_iinc (j := 2) (v := s_2.2 + 1) (n := 46) C [(2, .int (s_2.2 + 1)), (0, .ref j), (1, .int s_2.1)] dX1_skippedSet_43 rfl rfl (by decide) rfl rfl ?_
          refine xr_goto (tgt := 13) C dX1_skippedSet_46 rfl ?_
          refine xr_lv (lv' := [(0, .ref j), (1, .int s_2.1), (2, .int (s_2.2 + 1))]) [1, 2, 0] rfl ?_
          exact hk_2 (s_2.1, s_2.2 + 1) (Option.some.inj ho_2).symm
        · replace ho_2 := yf_f c_16 ho_2
          refine xr_iload_n (n := 38) (j := 1) C dX1_skippedSet_37 rfl rfl ?_
          refine xr_iconst (n := 39) (v := 1) C dX1_skippedSet_38 rfl rfl ?_
          refine xr_iload_n (n := 40) (j := 2) C dX1_skippedSet_39 rfl rfl ?_
          refine xr_ishl (n := 41) C dX1_skippedSet_40 rfl ?_
          refine xr_ior (n := 42) C dX1_skippedSet_41 rfl ?_
          obtain ⟨y_17, ey_17, ho_2⟩ := yf_l ho_2
          refine xr_topI ey_17 ?_
          refine xr_istore_n (n := 43) C [(1, .int y_17), (0, .ref j), (2, .int s_2.2)] dX1_skippedSet_42 (by decide) rfl rfl ?_
          refine xr_iinc (j := 2) (v := s_2.2 + 1) (n := 46) C [(2, .int (s_2.2 + 1)), (1, .int y_17), (0, .ref j)] dX1_skippedSet_43 rfl rfl (by decide) rfl rfl ?_
          refine xr_goto (tgt := 13) C dX1_skippedSet_46 rfl ?_
          refine xr_lv (lv' := [(0, .ref j), (1, .int y_17), (2, .int (s_2.2 + 1))]) [2, 1, 0] rfl ?_
          exact hk_2 (y_17, s_2.2 + 1) (Option.some.inj ho_2).symm
  · replace hR := yf_f c_1 hR
    refine xr_iconst (n := 8) (v := 0) C dX1_skippedSet_7 rfl rfl ?_
    obtain rfl := Option.some.inj hR
    exact ret 0 ⟨rfl, rfl⟩ (Nat.le_of_ble_eq_true rfl) (Nat.le_of_ble_eq_true rfl) dX1_skippedSet_8
theorem dX1_countSteps_0 : decode cX1_countSteps 0 = .ok (.aload_n 0, 1) := by decide +kernel
theorem dX1_countSteps_1 : decode cX1_countSteps 1 = .ok (.getfield 25, 3) := by decide +kernel
theorem dX1_countSteps_4 : decode cX1_countSteps 4 = .ok (.aload_n 0, 1) := by decide +kernel
theorem dX1_countSteps_5 : decode cX1_countSteps 5 = .ok (.invokevirtual 79, 3) := by decide +kernel
theorem dX1_countSteps_8 : decode cX1_countSteps 8 = .ok (.invokestatic 82, 3) := by decide +kernel
theorem dX1_countSteps_11 : decode cX1_countSteps 11 = .ok (.isub, 1) := by decide +kernel
theorem dX1_countSteps_12 : decode cX1_countSteps 12 = .ok (.ireturn, 1) := by decide +kernel
def fX1_countSteps (jr : Int32) (jk : Int32) (jc : Int32) (jg : Int32) (jaf : Nat → Int32) (jbf : Nat → Int32) : Option (Int32) := ((fX1_skippedSet jr jk jc jg jaf jbf).bind fun x_1 => ((fJ6_bitCount_0f7a4 x_1).bind fun x_5 => some (jk - x_5)))
abbrev hX1_countSteps : Cond := .code yX1_countSteps cX1_countSteps 1 (some .int)
theorem mX1_countSteps : yM yX1_countSteps hX1_countSteps 0 := ⟨u_331, u_58, by decide +kernel, by decide +kernel, by decide +kernel⟩
set_option maxHeartbeats 4000000 in
set_option maxRecDepth 100000 in
theorem kX1_countSteps (l : Launch) (D : va_G) (cy : Nat → ClassId) (j : Nat) (ja : Nat) (jb : Nat) (jr : Int32) (jk : Int32) (jc : Int32) (jg : Int32) (js : Int32) (jan : Nat) (jaf : Nat → Int32) (jbn : Nat) (jbf : Nat → Int32) {res : Int32} (hR : fX1_countSteps jr jk jc jg jaf jbf = some res) : YM l D cy yX1_countSteps hX1_countSteps 4 0 0 [.ref j] [[(j, .inr (3, [.ref ja, .ref jb, .int jr, .int jk, .int jc, .int jg, .int js]))], [(ja, .inr (6, [.ref jan]))], [(jan, .inl (cy 1, 81, .inl jaf))], [(jb, .inr (6, [.ref jbn]))], [(jbn, .inl (cy 1, 81, .inl jbf))]] (fun v u => v = some (.int res) ∧ u = [[(j, .inr (3, [.ref ja, .ref jb, .int jr, .int jk, .int jc, .int jg, .int js]))], [(ja, .inr (6, [.ref jan]))], [(jan, .inl (cy 1, 81, .inl jaf))], [(jb, .inr (6, [.ref jbn]))], [(jbn, .inl (cy 1, 81, .inl jbf))]]) := by
  unfold fX1_countSteps at hR
  refine YM.ofI (cc := cX1_countSteps) (maxL := 1) (ret := (some .int)) (by decide +kernel) rfl (Nat.le_of_ble_eq_true rfl) [(0, .ref j)] rfl rfl (fun p e s m args below meth c A H0 Q C hnm ret => ?_)
  refine xr_aload_n (n := 1) (j := 0) C dX1_countSteps_0 rfl rfl ?_
  refine xr_get (n := 4) C 0 rfl rfl 3 (by decide) in_X1 u_115 rfl (v := .int jk) rfl dX1_countSteps_1 rfl ?_
  refine xr_aload_n (n := 5) (j := 0) C dX1_countSteps_4 rfl rfl ?_
  obtain ⟨x_1, hx_1, hR⟩ := yf_b hR
  refine xr_callVp (n := 8) (As := []) (rest := [.int jk]) C (kX1_skippedSet l D cy (j := j) (ja := ja) (jb := jb) (jr := jr) (jk := jk) (jc := jc) (jg := jg) (js := js) (jan := jan) (jaf := jaf) (jbn := jbn) (jbf := jbf) hx_1) mX1_skippedSet u_332 u_333 u_334 0 rfl rfl 5 [0, 1, 2, 3, 4] [] rfl (by decide +kernel) rfl rfl rfl rfl (Nat.le_of_ble_eq_true rfl) (Nat.le_of_ble_eq_true rfl) (Nat.le_of_ble_eq_true rfl) (Nat.le_of_ble_eq_true rfl) (Nat.le_of_ble_eq_true rfl) dX1_countSteps_5 rfl (fun _ _ hp => hp.2) (fun v_2 hp_4 => ?_)
  obtain ⟨rfl, -⟩ := hp_4
  refine xr_st (st' := [.int x_1, .int jk]) rfl ?_
  obtain ⟨x_5, hx_5, hR⟩ := yf_b hR
  refine xr_callSp (n := 11) (As := [.int x_1]) (rest := [.int jk]) C (kJ6_bitCount_0f7a4 l D cy (i1 := x_1) hx_5) mJ6_bitCount_0f7a4 u_348 u_349 5 [] [0, 1, 2, 3, 4] rfl (by decide +kernel) rfl rfl rfl rfl (Nat.le_of_ble_eq_true rfl) (Nat.le_of_ble_eq_true rfl) (Nat.le_of_ble_eq_true rfl) (Nat.le_of_ble_eq_true rfl) (Nat.le_of_ble_eq_true rfl) dX1_countSteps_8 rfl (fun _ _ hp => hp.2) (fun v_6 hp_8 => ?_)
  obtain ⟨rfl, -⟩ := hp_8
  refine xr_st (st' := [.int x_5, .int jk]) rfl ?_
  refine xr_isub (n := 12) C dX1_countSteps_11 rfl ?_
  obtain rfl := Option.some.inj hR
  exact ret (jk - x_5) ⟨rfl, rfl⟩ (Nat.le_of_ble_eq_true rfl) (Nat.le_of_ble_eq_true rfl) dX1_countSteps_12
theorem dX2_countPieces_0 : decode cX2_countPieces 0 = .ok (.iload_n 1, 1) := by decide +kernel
theorem dX2_countPieces_1 : decode cX2_countPieces 1 = .ok (.iconst 1, 1) := by decide +kernel
theorem dX2_countPieces_2 : decode cX2_countPieces 2 = .ok (.if_icmp .ge 7, 3) := by decide +kernel
theorem dX2_countPieces_5 : decode cX2_countPieces 5 = .ok (.iconst 0, 1) := by decide +kernel
theorem dX2_countPieces_6 : decode cX2_countPieces 6 = .ok (.goto 10, 3) := by decide +kernel
theorem dX2_countPieces_9 : decode cX2_countPieces 9 = .ok (.iload_n 0, 1) := by decide +kernel
theorem dX2_countPieces_10 : decode cX2_countPieces 10 = .ok (.iload_n 1, 1) := by decide +kernel
theorem dX2_countPieces_11 : decode cX2_countPieces 11 = .ok (.iadd, 1) := by decide +kernel
theorem dX2_countPieces_12 : decode cX2_countPieces 12 = .ok (.iconst 1, 1) := by decide +kernel
theorem dX2_countPieces_13 : decode cX2_countPieces 13 = .ok (.isub, 1) := by decide +kernel
theorem dX2_countPieces_14 : decode cX2_countPieces 14 = .ok (.iload_n 1, 1) := by decide +kernel
theorem dX2_countPieces_15 : decode cX2_countPieces 15 = .ok (.idiv, 1) := by decide +kernel
theorem dX2_countPieces_16 : decode cX2_countPieces 16 = .ok (.ireturn, 1) := by decide +kernel
def fX2_countPieces (i1 : Int32) (i2 : Int32) : Option (Int32) := (if 1 ≤ i2 then (if ¬ i2 = 0 then some (((i1 + i2) - 1) / i2) else none) else some 0)
abbrev hX2_countPieces : Cond := .code yX2_countPieces cX2_countPieces 2 (some .int)
theorem mX2_countPieces : yM yX2_countPieces hX2_countPieces 2 := ⟨u_361, u_63, by decide +kernel, by decide +kernel, by decide +kernel⟩
set_option maxHeartbeats 4000000 in
set_option maxRecDepth 100000 in
theorem kX2_countPieces (l : Launch) (D : va_G) (cy : Nat → ClassId) (i1 : Int32) (i2 : Int32) {res : Int32} (hR : fX2_countPieces i1 i2 = some res) : YM l D cy yX2_countPieces hX2_countPieces 1 0 0 [.int i1, .int i2] [] (fun v u => v = some (.int res) ∧ u = []) := by
  unfold fX2_countPieces at hR
  refine YM.ofI (cc := cX2_countPieces) (maxL := 2) (ret := (some .int)) (by decide +kernel) rfl (Nat.le_of_ble_eq_true rfl) [(0, .int i1), (1, .int i2)] rfl rfl (fun p e s m args below meth c A H0 Q C hnm ret => ?_)
  refine xr_iload_n (n := 1) (j := 1) C dX2_countPieces_0 rfl rfl ?_
  refine xr_iconst (n := 2) (v := 1) C dX2_countPieces_1 rfl rfl ?_
  refine xr_icmp_ge (tgt := 9) (n := 5) C dX2_countPieces_2 rfl rfl (fun c_1 => ?_) (fun c_1 => ?_)
  · replace hR := yf_t c_1 hR
    refine xr_iload_n (n := 10) (j := 0) C dX2_countPieces_9 rfl rfl ?_
    refine xr_iload_n (n := 11) (j := 1) C dX2_countPieces_10 rfl rfl ?_
    refine xr_iadd (n := 12) C dX2_countPieces_11 rfl ?_
    refine xr_iconst (n := 13) (v := 1) C dX2_countPieces_12 rfl rfl ?_
    refine xr_isub (n := 14) C dX2_countPieces_13 rfl ?_
    refine xr_iload_n (n := 15) (j := 1) C dX2_countPieces_14 rfl rfl ?_
    obtain ⟨g_2, hR⟩ := yf_g hR
    refine xr_idiv (n := 16) C dX2_countPieces_15 g_2 rfl ?_
    obtain rfl := Option.some.inj hR
    exact ret (((i1 + i2) - 1) / i2) ⟨rfl, rfl⟩ (Nat.le_of_ble_eq_true rfl) (Nat.le_of_ble_eq_true rfl) dX2_countPieces_16
  · replace hR := yf_f c_1 hR
    refine xr_iconst (n := 6) (v := 0) C dX2_countPieces_5 rfl rfl ?_
    refine xr_goto (tgt := 16) C dX2_countPieces_6 rfl ?_
    obtain rfl := Option.some.inj hR
    exact ret 0 ⟨rfl, rfl⟩ (Nat.le_of_ble_eq_true rfl) (Nat.le_of_ble_eq_true rfl) dX2_countPieces_16
