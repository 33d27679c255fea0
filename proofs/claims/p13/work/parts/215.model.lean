theorem u_1346 : Cond.methodLink RX9 140 ⟨"[Z", "clone", "()Ljava/lang/Object;"⟩ ∈ yU := yu_tables_1_6 90 (by decide +kernel) (by decide +kernel)
theorem u_1347 : Cond.sameMethod "[Z" "java/lang/Object" "clone" "()Ljava/lang/Object;" ∈ yU := yu_tables_1_6 91 (by decide +kernel) (by decide +kernel)
theorem u_972 : Cond.native ⟨"java/lang/Object", "clone", "()Ljava/lang/Object;"⟩ ∈ yU := yu_tables_1_4 196 (by decide +kernel) (by decide +kernel)
theorem u_973 : Cond.instanceMethod ⟨"java/lang/Object", "clone", "()Ljava/lang/Object;"⟩ ∈ yU := yu_tables_1_4 197 (by decide +kernel) (by decide +kernel)
theorem u_1348 : Cond.selects "[Z" ⟨"[Z", "clone", "()Ljava/lang/Object;"⟩ ⟨"java/lang/Object", "clone", "()Ljava/lang/Object;"⟩ ∈ yU := yu_tables_1_6 92 (by decide +kernel) (by decide +kernel)
theorem u_1350 : Cond.classLink RX9 141 "[Z" ∈ yU := yu_tables_1_6 94 (by decide +kernel) (by decide +kernel)
theorem u_1345 : Cond.code yX9_test cX9_test 3 (some .int) ∈ yU := yu_tables_1_6 89 (by decide +kernel) (by decide +kernel)
theorem u_1199 : Cond.methodLink RX8 1 objectInit ∈ yU := yu_tables_1_5 183 (by decide +kernel) (by decide +kernel)
theorem u_1198 : Cond.code yX8_init cX8_init 1 none ∈ yU := yu_tables_1_5 182 (by decide +kernel) (by decide +kernel)
theorem u_1403 : Cond.classLink RX8 8 RX8 ∈ yU := yu_tables_1_6 147 (by decide +kernel) (by decide +kernel)
theorem u_1195 : Cond.instantiable RX8 7 ∈ yU := yu_tables_1_5 179 (by decide +kernel) (by decide +kernel)
theorem u_1404 : Cond.methodLink RX8 73 yX8_init ∈ yU := yu_tables_1_6 148 (by decide +kernel) (by decide +kernel)
theorem u_1197 : Cond.instanceMethod yX8_init ∈ yU := yu_tables_1_5 181 (by decide +kernel) (by decide +kernel)
theorem u_1405 : Cond.classLink RX8 74 "[I" ∈ yU := yu_tables_1_6 149 (by decide +kernel) (by decide +kernel)
theorem u_1406 : Cond.methodLink RX8 76 ⟨"[I", "clone", "()Ljava/lang/Object;"⟩ ∈ yU := yu_tables_1_6 150 (by decide +kernel) (by decide +kernel)
theorem u_1407 : Cond.sameMethod "[I" "java/lang/Object" "clone" "()Ljava/lang/Object;" ∈ yU := yu_tables_1_6 151 (by decide +kernel) (by decide +kernel)
theorem u_1408 : Cond.selects "[I" ⟨"[I", "clone", "()Ljava/lang/Object;"⟩ ⟨"java/lang/Object", "clone", "()Ljava/lang/Object;"⟩ ∈ yU := yu_tables_1_6 152 (by decide +kernel) (by decide +kernel)
theorem u_1402 : Cond.code yX8_copy cX8_copy 3 (some (.object "PulsemeshModel$Work")) ∈ yU := yu_tables_1_6 146 (by decide +kernel) (by decide +kernel)
theorem u_1355 : Cond.methodLink RX9 173 yX9_bestLayout ∈ yU := yu_tables_1_6 99 (by decide +kernel) (by decide +kernel)
theorem u_1357 : Cond.instanceMethod yX9_bestLayout ∈ yU := yu_tables_1_6 101 (by decide +kernel) (by decide +kernel)
theorem u_32 : Cond.selects RX9 yX9_bestLayout yX9_bestLayout ∈ yU := yu 32 (by decide +kernel) (by decide +kernel)
theorem u_1399 : Cond.methodLink RX9 177 yX8_copy ∈ yU := yu_tables_1_6 143 (by decide +kernel) (by decide +kernel)
theorem u_1400 : Cond.instanceMethod yX8_copy ∈ yU := yu_tables_1_6 144 (by decide +kernel) (by decide +kernel)
theorem u_1401 : Cond.selects RX8 yX8_copy yX8_copy ∈ yU := yu_tables_1_6 145 (by decide +kernel) (by decide +kernel)
theorem u_1410 : Cond.methodLink RX9 181 yX9_begin ∈ yU := yu_tables_1_6 154 (by decide +kernel) (by decide +kernel)
theorem u_1412 : Cond.instanceMethod yX9_begin ∈ yU := yu_tables_1_6 156 (by decide +kernel) (by decide +kernel)
theorem u_34 : Cond.selects RX9 yX9_begin yX9_begin ∈ yU := yu 34 (by decide +kernel) (by decide +kernel)
theorem u_1354 : Cond.code yX9_start_ cX9_start_ 2 (some .int) ∈ yU := yu_tables_1_6 98 (by decide +kernel) (by decide +kernel)
theorem dX9_test_0 : decode cX9_test 0 = .ok (.aload_n 0, 1) := by decide +kernel
theorem dX9_test_1 : decode cX9_test 1 = .ok (.aload_n 0, 1) := by decide +kernel
theorem dX9_test_2 : decode cX9_test 2 = .ok (.getfield 137, 3) := by decide +kernel
theorem dX9_test_5 : decode cX9_test 5 = .ok (.ifnull 7, 3) := by decide +kernel
theorem dX9_test_8 : decode cX9_test 8 = .ok (.iconst 1, 1) := by decide +kernel
theorem dX9_test_9 : decode cX9_test 9 = .ok (.goto 4, 3) := by decide +kernel
theorem dX9_test_12 : decode cX9_test 12 = .ok (.iconst 0, 1) := by decide +kernel
theorem dX9_test_13 : decode cX9_test 13 = .ok (.iconst 1, 1) := by decide +kernel
theorem dX9_test_14 : decode cX9_test 14 = .ok (.invokevirtual 79, 3) := by decide +kernel
theorem dX9_test_17 : decode cX9_test 17 = .ok (.ifCond .eq 5, 3) := by decide +kernel
theorem dX9_test_20 : decode cX9_test 20 = .ok (.iconst 0, 1) := by decide +kernel
theorem dX9_test_21 : decode cX9_test 21 = .ok (.ireturn, 1) := by decide +kernel
theorem dX9_test_22 : decode cX9_test 22 = .ok (.aload_n 0, 1) := by decide +kernel
theorem dX9_test_23 : decode cX9_test 23 = .ok (.aload_n 0, 1) := by decide +kernel
theorem dX9_test_24 : decode cX9_test 24 = .ok (.getfield 24, 3) := by decide +kernel
theorem dX9_test_27 : decode cX9_test 27 = .ok (.invokevirtual 133, 3) := by decide +kernel
theorem dX9_test_30 : decode cX9_test 30 = .ok (.aload_n 0, 1) := by decide +kernel
theorem dX9_test_31 : decode cX9_test 31 = .ok (.aload_n 0, 1) := by decide +kernel
theorem dX9_test_32 : decode cX9_test 32 = .ok (.getfield 27, 3) := by decide +kernel
theorem dX9_test_35 : decode cX9_test 35 = .ok (.invokevirtual 133, 3) := by decide +kernel
theorem dX9_test_38 : decode cX9_test 38 = .ok (.isub, 1) := by decide +kernel
theorem dX9_test_39 : decode cX9_test 39 = .ok (.istore_n 1, 1) := by decide +kernel
theorem dX9_test_40 : decode cX9_test 40 = .ok (.iconst 0, 1) := by decide +kernel
theorem dX9_test_41 : decode cX9_test 41 = .ok (.istore_n 2, 1) := by decide +kernel
theorem dX9_test_42 : decode cX9_test 42 = .ok (.iload_n 2, 1) := by decide +kernel
theorem dX9_test_43 : decode cX9_test 43 = .ok (.iconst 5, 1) := by decide +kernel
theorem dX9_test_44 : decode cX9_test 44 = .ok (.if_icmp .ge 27, 3) := by decide +kernel
theorem dX9_test_47 : decode cX9_test 47 = .ok (.aload_n 0, 1) := by decide +kernel
theorem dX9_test_48 : decode cX9_test 48 = .ok (.getfield 27, 3) := by decide +kernel
theorem dX9_test_51 : decode cX9_test 51 = .ok (.iload_n 2, 1) := by decide +kernel
theorem dX9_test_52 : decode cX9_test 52 = .ok (.aload_n 0, 1) := by decide +kernel
theorem dX9_test_53 : decode cX9_test 53 = .ok (.getfield 24, 3) := by decide +kernel
theorem dX9_test_56 : decode cX9_test 56 = .ok (.iload_n 2, 1) := by decide +kernel
theorem dX9_test_57 : decode cX9_test 57 = .ok (.aaload, 1) := by decide +kernel
theorem dX9_test_58 : decode cX9_test 58 = .ok (.invokevirtual 140, 3) := by decide +kernel
theorem dX9_test_61 : decode cX9_test 61 = .ok (.checkcast 141, 3) := by decide +kernel
theorem dX9_test_64 : decode cX9_test 64 = .ok (.aastore, 1) := by decide +kernel
theorem dX9_test_65 : decode cX9_test 65 = .ok (.iinc 2 1, 3) := by decide +kernel
theorem dX9_test_68 : decode cX9_test 68 = .ok (.goto (-26), 3) := by decide +kernel
theorem dX9_test_71 : decode cX9_test 71 = .ok (.iload_n 1, 1) := by decide +kernel
theorem dX9_test_72 : decode cX9_test 72 = .ok (.ireturn, 1) := by decide +kernel
def fX9_test_i (gBG : Nat → Nat → Int32) (gKG : Nat → Nat → Int32) : Option (Int32 × Int32 × (Nat → Nat → Int32)) := ((fX9_start_i 0 1).bind fun x_1 => (if x_1.1 = 0 then ((fX9_count_i 5 5 gBG).bind fun x_6 => ((fX9_count_i 5 5 gKG).bind fun x_10 => ((wl (S := Int32 × (Nat → Nat → Int32) × Nat × Nat) (B := Int32 × (Nat → Nat → Int32) × Nat × Nat) (fun s_14 => (if s_14.2.2.1 ≤ 10 ∧ s_14.2.2.2 ≤ 50 then (if 5 ≤ s_14.1 then some (.inr (s_14.1, s_14.2.1, s_14.2.2.1, s_14.2.2.2)) else (if ¬ (s_14.1 < 0 ∨ 5 ≤ s_14.1.toNatClampNeg) then (if ∀ j, j < 5 → fits .boolean (.int (gBG s_14.1.toNatClampNeg j)) = true then (if s_14.2.2.1 + 1 ≤ 10 ∧ s_14.2.2.2 + 5 ≤ 50 then (if ¬ (s_14.1 < 0 ∨ 5 ≤ s_14.1.toNatClampNeg) then some (.inl (s_14.1 + 1, va_up s_14.2.1 s_14.1.toNatClampNeg (gBG s_14.1.toNatClampNeg), s_14.2.2.1 + 1, s_14.2.2.2 + 5)) else none) else none) else none) else none)) else none)) yFuel (0, gKG, 0, 0)).bind fun b_14 => (if b_14.2.2.1 ≤ 10 ∧ b_14.2.2.2 ≤ 50 then some (x_6 - x_10, x_1.2, b_14.2.1) else none)))) else some (0, x_1.2, gKG)))
abbrev hX9_test : Cond := .code yX9_test cX9_test 3 (some .int)
theorem mX9_test : yM yX9_test hX9_test 0 := ⟨u_1345, u_64, by decide +kernel, by decide +kernel, by decide +kernel⟩
set_option maxHeartbeats 4000000 in
set_option maxRecDepth 100000 in
theorem kX9_test_i (l : Launch) (D : va_G) (cy : Nat → ClassId) (g : Nat) (gth : Int32) (gw : Nat) (gB : Nat) (gK : Nat) (gU : Nat) (gS : Nat) (gbe : Int32) (gwo : Int32) (gta : Int64) (glr : Int32) (glc : Int32) (gti : Int32) (ggo : Int32) (gR : Nat) (gch : Int32) (gD : Nat) (gBd : Nat → Nat) (gBG : Nat → Nat → Int32) (gKd : Nat → Nat) (gKG : Nat → Nat → Int32) {res : Int32 × Int32 × (Nat → Nat → Int32)} (hR : fX9_test_i gBG gKG = some res) : YM l D cy yX9_test hX9_test 3 10 50 [.ref g] [[(g, .inr (11, [.int gth, .ref gw, .ref gB, .ref gK, .ref gU, .ref gS, .int gbe, .int gwo, .long gta, .null, .int glr, .int glc, .int gti, .int ggo, .ref gR, .int gch, .ref gD]))], [(gB, .inl (cy 4, 5, .inr (.inr (.inr (.inr (yad gBd))))))], xg_rows gBd 5 (cy 2) 5 gBG, [(gK, .inl (cy 4, 5, .inr (.inr (.inr (.inr (yad gKd))))))], xg_rows gKd 5 (cy 2) 5 gKG] (fun v u => ∃ gKd : Nat → Nat, v = some (.int res.1) ∧ u = [[(g, .inr (11, [.int res.2.1, .ref gw, .ref gB, .ref gK, .ref gU, .ref gS, .int gbe, .int gwo, .long gta, .null, .int glr, .int glc, .int gti, .int ggo, .ref gR, .int gch, .ref gD]))], [(gB, .inl (cy 4, 5, .inr (.inr (.inr (.inr (yad gBd))))))], xg_rows gBd 5 (cy 2) 5 gBG, [(gK, .inl (cy 4, 5, .inr (.inr (.inr (.inr (yad gKd))))))], xg_rows gKd 5 (cy 2) 5 res.2.2]) := by
  unfold fX9_test_i at hR
  refine YM.ofI (cc := cX9_test) (maxL := 3) (ret := (some .int)) (by decide +kernel) rfl (Nat.le_of_ble_eq_true rfl) [(0, .ref g)] rfl rfl (fun p e s m args below meth c A H0 Q C hnm ret => ?_)
  refine xr_aload_n (n := 1) (j := 0) C dX9_test_0 rfl rfl ?_
  refine xr_aload_n (n := 2) (j := 0) C dX9_test_1 rfl rfl ?_
  refine xr_get (n := 5) C 0 rfl rfl 9 (by decide) in_X9 u_1246 rfl (v := .null) rfl dX9_test_2 rfl ?_
  refine xr_ifnullN (tgt := 12) C dX9_test_5 rfl ?_
  refine xr_iconst (n := 13) (v := 0) C dX9_test_12 rfl rfl ?_
  refine xr_iconst (n := 14) (v := 1) C dX9_test_13 rfl rfl ?_
  obtain ⟨x_1, hx_1, hR⟩ := yf_b hR
  refine xr_callV (n := 17) (As := [.int 0, .int 1]) (rest := []) C (kX9_start_i l D cy (g := g) (gth := gth) (gw := gw) (gB := gB) (gK := gK) (gU := gU) (gS := gS) (gbe := gbe) (gwo := gwo) (gta := gta) (glr := glr) (glc := glc) (gti := gti) (ggo := ggo) (gR := gR) (gch := gch) (gD := gD) (i1 := 0) (i2 := 1) hx_1) mX9_start u_1301 u_1303 u_29 0 rfl rfl 5 [0] [1, 2, 3, 4] rfl (by decide +kernel) rfl rfl rfl rfl (Nat.le_of_ble_eq_true rfl) (Nat.le_of_ble_eq_true rfl) (Nat.le_of_ble_eq_true rfl) (Nat.le_of_ble_eq_true rfl) (Nat.le_of_ble_eq_true rfl) dX9_test_14 rfl (fun v_2 u_3 hp_4 => ?_)
  obtain ⟨rfl, rfl⟩ := hp_4
  refine xr_perm C 5 [0, 1, 2, 3, 4] [] [[(g, .inr (11, [.int x_1.2, .ref gw, .ref gB, .ref gK, .ref gU, .ref gS, .int gbe, .int gwo, .long gta, .null, .int glr, .int glc, .int gti, .int ggo, .ref gR, .int gch, .ref gD]))], [(gB, .inl (cy 4, 5, .inr (.inr (.inr (.inr (yad gBd))))))], xg_rows gBd 5 (cy 2) 5 gBG, [(gK, .inl (cy 4, 5, .inr (.inr (.inr (.inr (yad gKd))))))], xg_rows gKd 5 (cy 2) 5 gKG] rfl (by decide +kernel) rfl ?_
  refine xr_st (st' := [.int x_1.1]) rfl ?_
  refine xr_if_eq (tgt := 22) (n := 20) C dX9_test_17 rfl rfl (fun c_5 => ?_) (fun c_5 => ?_)
  · replace hR := yf_t c_5 hR
    refine xr_aload_n (n := 23) (j := 0) C dX9_test_22 rfl rfl ?_
    refine xr_aload_n (n := 24) (j := 0) C dX9_test_23 rfl rfl ?_
    refine xr_get (n := 27) C 0 rfl rfl 2 (by decide) in_X9 u_1239 rfl (v := .ref gB) rfl dX9_test_24 rfl ?_
    obtain ⟨x_6, hx_6, hR⟩ := yf_b hR
    refine xr_callVp (n := 30) (As := [.ref gB]) (rest := []) C (kX9_count_i l D cy (g := g) (gth := x_1.2) (gw := gw) (gB := gB) (gK := gK) (gU := gU) (gS := gS) (gbe := gbe) (gwo := gwo) (gta := gta) (glr := glr) (glc := glc) (gti := gti) (ggo := ggo) (gR := gR) (gch := gch) (gD := gD) (h := gB) (hd := gBd) (hn := 5) (hk := 5) (hG := gBG) hx_6) mX9_count u_1338 u_1340 u_31 0 rfl rfl 5 [0, 1, 2] [3, 4] rfl (by decide +kernel) rfl rfl rfl rfl (Nat.le_of_ble_eq_true rfl) (Nat.le_of_ble_eq_true rfl) (Nat.le_of_ble_eq_true rfl) (Nat.le_of_ble_eq_true rfl) (Nat.le_of_ble_eq_true rfl) dX9_test_27 rfl (fun _ _ hp => hp.2) (fun v_7 hp_9 => ?_)
    obtain ⟨rfl, -⟩ := hp_9
    refine xr_st (st' := [.int x_6]) rfl ?_
    refine xr_aload_n (n := 31) (j := 0) C dX9_test_30 rfl rfl ?_
    refine xr_aload_n (n := 32) (j := 0) C dX9_test_31 rfl rfl ?_
    refine xr_get (n := 35) C 0 rfl rfl 3 (by decide) in_X9 u_1240 rfl (v := .ref gK) rfl dX9_test_32 rfl ?_
    obtain ⟨x_10, hx_10, hR⟩ := yf_b hR
    refine xr_callVp (n := 38) (As := [.ref gK]) (rest := [.int x_6]) C (kX9_count_i l D cy (g := g) (gth := x_1.2) (gw := gw) (gB := gB) (gK := gK) (gU := gU) (gS := gS) (gbe := gbe) (gwo := gwo) (gta := gta) (glr := glr) (glc := glc) (gti := gti) (ggo := ggo) (gR := gR) (gch := gch) (gD := gD) (h := gK) (hd := gKd) (hn := 5) (hk := 5) (hG := gKG) hx_10) mX9_count u_1338 u_1340 u_31 0 rfl rfl 5 [0, 3, 4] [1, 2] rfl (by decide +kernel) rfl rfl rfl rfl (Nat.le_of_ble_eq_true rfl) (Nat.le_of_ble_eq_true rfl) (Nat.le_of_ble_eq_true rfl) (Nat.le_of_ble_eq_true rfl) (Nat.le_of_ble_eq_true rfl) dX9_test_35 rfl (fun _ _ hp => hp.2) (fun v_11 hp_13 => ?_)
    obtain ⟨rfl, -⟩ := hp_13
    refine xr_st (st' := [.int x_10, .int x_6]) rfl ?_
    refine xr_isub (n := 39) C dX9_test_38 rfl ?_
    refine xr_istore_n (n := 40) C [(1, .int (x_6 - x_10)), (0, .ref g)] dX9_test_39 (by decide) rfl rfl ?_
    refine xr_iconst (n := 41) (v := 0) C dX9_test_40 rfl rfl ?_
    refine xr_istore_n (n := 42) C [(2, .int 0), (1, .int (x_6 - x_10)), (0, .ref g)] dX9_test_41 (by decide) rfl rfl ?_
    refine xr_lv (lv' := [(0, .ref g), (1, .int (x_6 - x_10)), (2, .int 0)]) [2, 1, 0] rfl ?_
    obtain ⟨b_14, hb_14, hR⟩ := yf_b hR
    have K_14 : ∀ a0_14 : Nat → Nat, X p l e (yR 3 10 50) s m args below meth c D A H0 3 Q [[(g, .inr (11, [.int x_1.2, .ref gw, .ref gB, .ref gK, .ref gU, .ref gS, .int gbe, .int gwo, .long gta, .null, .int glr, .int glc, .int gti, .int ggo, .ref gR, .int gch, .ref gD]))], [(gB, .inl (cy 4, 5, .inr (.inr (.inr (.inr (yad gBd))))))], xg_rows gBd 5 (cy 2) 5 gBG, [(gK, .inl (cy 4, 5, .inr (.inr (.inr (.inr (yad a0_14))))))], xg_rows a0_14 5 (cy 2) 5 b_14.2.1] b_14.2.2.1 b_14.2.2.2 [(1, .int (x_6 - x_10))] 71 [] := by
      intro a0_14
      obtain ⟨g_15, hR⟩ := yf_g hR
      refine xr_iload_n (n := 72) (j := 0) C dX9_test_71 rfl rfl ?_
      obtain rfl := Option.some.inj hR
      exact ret (x_6 - x_10) ⟨a0_14, rfl, rfl⟩ g_15.1 g_15.2 dX9_test_72
    refine y_loop (P := fun (s_14 : Int32 × (Nat → Nat → Int32) × Nat × Nat) => ∀ a0_14 : Nat → Nat, X p l e (yR 3 10 50) s m args below meth c D A H0 3 Q [[(g, .inr (11, [.int x_1.2, .ref gw, .ref gB, .ref gK, .ref gU, .ref gS, .int gbe, .int gwo, .long gta, .null, .int glr, .int glc, .int gti, .int ggo, .ref gR, .int gch, .ref gD]))], [(gB, .inl (cy 4, 5, .inr (.inr (.inr (.inr (yad gBd))))))], xg_rows gBd 5 (cy 2) 5 gBG, [(gK, .inl (cy 4, 5, .inr (.inr (.inr (.inr (yad a0_14))))))], xg_rows a0_14 5 (cy 2) 5 s_14.2.1] s_14.2.2.1 s_14.2.2.2 [(0, .ref g), (1, .int (x_6 - x_10)), (2, .int s_14.1)] 42 []) ?_ _ (0, gKG, 0, 0) hb_14 gKd
    intro s_14 o_14 ho_14 hk_14 hx_14 a0_14
    obtain ⟨g_16, ho_14⟩ := yf_g ho_14
    refine xr_iload_n (n := 43) (j := 2) C dX9_test_42 rfl rfl ?_
    refine xr_iconst (n := 44) (v := 5) C dX9_test_43 rfl rfl ?_
    refine xr_icmp_ge (tgt := 71) (n := 47) C dX9_test_44 rfl rfl (fun c_17 => ?_) (fun c_17 => ?_)
    · replace ho_14 := yf_t c_17 ho_14
      refine xr_lv (lv' := [(1, .int (x_6 - x_10))]) [1] rfl ?_
      have e_18 := hx_14 _ (Option.some.inj ho_14).symm
      subst e_18
      exact K_14 a0_14
    · replace ho_14 := yf_f c_17 ho_14
      refine xr_aload_n (n := 48) (j := 0) C dX9_test_47 rfl rfl ?_
      refine xr_get (n := 51) C 0 rfl rfl 3 (by decide) in_X9 u_1240 rfl (v := .ref gK) rfl dX9_test_48 rfl ?_
      refine xr_iload_n (n := 52) (j := 2) C dX9_test_51 rfl rfl ?_
      refine xr_aload_n (n := 53) (j := 0) C dX9_test_52 rfl rfl ?_
      refine xr_get (n := 56) C 0 rfl rfl 2 (by decide) in_X9 u_1239 rfl (v := .ref gB) rfl dX9_test_53 rfl ?_
      refine xr_iload_n (n := 57) (j := 2) C dX9_test_56 rfl rfl ?_
      obtain ⟨g_19, ho_14⟩ := yf_g ho_14
      refine xr_aald (n := 58) C 1 0 rfl 4 rfl rfl g_19 rfl dX9_test_57 rfl ?_
      obtain ⟨g_20, ho_14⟩ := yf_g ho_14
      obtain ⟨g_21, ho_14⟩ := yf_g ho_14
      refine xr_cloneZ (n := 64) C u_1346 u_1347 u_972 u_973 u_1348 (List.mem_of_getElem? (i := 59) rfl) u_1350 2 s_14.1.toNatClampNeg rfl (xg_at (ylt g_19)) g_20 (Nat.le_of_ble_eq_true rfl) (Nat.le_of_ble_eq_true rfl) g_21.1 g_21.2 dX9_test_58 dX9_test_61 rfl (fun q_22 => ?_)
      refine xr_eq (bs' := [[(g, .inr (11, [.int x_1.2, .ref gw, .ref gB, .ref gK, .ref gU, .ref gS, .int gbe, .int gwo, .long gta, .null, .int glr, .int glc, .int gti, .int ggo, .ref gR, .int gch, .ref gD]))], [(gB, .inl (cy 4, 5, .inr (.inr (.inr (.inr (yad gBd))))))], xg_rows gBd 5 (cy 2) 5 gBG, [(gK, .inl (cy 4, 5, .inr (.inr (.inr (.inr (yad a0_14))))))], xg_rows a0_14 5 (cy 2) 5 s_14.2.1, [(q_22, .inl (cy 2, 5, .inl (gBG s_14.1.toNatClampNeg)))]]) rfl ?_
      obtain ⟨g_23, ho_14⟩ := yf_g ho_14
      refine xr_aastZ (n := 65) C 3 0 rfl rfl 5 0 rfl rfl g_23 [[(g, .inr (11, [.int x_1.2, .ref gw, .ref gB, .ref gK, .ref gU, .ref gS, .int gbe, .int gwo, .long gta, .null, .int glr, .int glc, .int gti, .int ggo, .ref gR, .int gch, .ref gD]))], [(gB, .inl (cy 4, 5, .inr (.inr (.inr (.inr (yad gBd))))))], xg_rows gBd 5 (cy 2) 5 gBG, [(gK, .inl (cy 4, 5, .inr (.inr (.inr (.inr (yad (va_up a0_14 s_14.1.toNatClampNeg q_22)))))))], xg_rows a0_14 5 (cy 2) 5 s_14.2.1, [(q_22, .inl (cy 2, 5, .inl (gBG s_14.1.toNatClampNeg)))]] (by rw [yad_up]; rfl) dX9_test_64 rfl ?_
      refine xr_perm C 6 [4, 5, 0, 1, 2, 3] [] [xg_rows a0_14 5 (cy 2) 5 s_14.2.1, [(q_22, .inl (cy 2, 5, .inl (gBG s_14.1.toNatClampNeg)))], [(g, .inr (11, [.int x_1.2, .ref gw, .ref gB, .ref gK, .ref gU, .ref gS, .int gbe, .int gwo, .long gta, .null, .int glr, .int glc, .int gti, .int ggo, .ref gR, .int gch, .ref gD]))], [(gB, .inl (cy 4, 5, .inr (.inr (.inr (.inr (yad gBd))))))], xg_rows gBd 5 (cy 2) 5 gBG, [(gK, .inl (cy 4, 5, .inr (.inr (.inr (.inr (yad (va_up a0_14 s_14.1.toNatClampNeg q_22)))))))]] rfl (by decide +kernel) rfl ?_
      refine xr_regrow s_14.1.toNatClampNeg (ylt g_23) ?_
      refine xr_iinc (j := 2) (v := s_14.1 + 1) (n := 68) C [(2, .int (s_14.1 + 1)), (0, .ref g), (1, .int (x_6 - x_10))] dX9_test_65 rfl rfl (by decide) rfl rfl ?_
      refine xr_goto (tgt := 42) C dX9_test_68 rfl ?_
      refine xr_lv (lv' := [(0, .ref g), (1, .int (x_6 - x_10)), (2, .int (s_14.1 + 1))]) [1, 2, 0] rfl ?_
      refine xr_perm C 5 [1, 2, 3, 4, 0] [] [[(g, .inr (11, [.int x_1.2, .ref gw, .ref gB, .ref gK, .ref gU, .ref gS, .int gbe, .int gwo, .long gta, .null, .int glr, .int glc, .int gti, .int ggo, .ref gR, .int gch, .ref gD]))], [(gB, .inl (cy 4, 5, .inr (.inr (.inr (.inr (yad gBd))))))], xg_rows gBd 5 (cy 2) 5 gBG, [(gK, .inl (cy 4, 5, .inr (.inr (.inr (.inr (yad (va_up a0_14 s_14.1.toNatClampNeg q_22)))))))], xg_rows (va_up a0_14 s_14.1.toNatClampNeg q_22) 5 (cy 2) 5 (va_up s_14.2.1 s_14.1.toNatClampNeg (gBG s_14.1.toNatClampNeg))] rfl (by decide +kernel) rfl ?_
      exact hk_14 (s_14.1 + 1, va_up s_14.2.1 s_14.1.toNatClampNeg (gBG s_14.1.toNatClampNeg), s_14.2.2.1 + 1, s_14.2.2.2 + 5) (Option.some.inj ho_14).symm (va_up a0_14 s_14.1.toNatClampNeg q_22)
  · replace hR := yf_f c_5 hR
    refine xr_iconst (n := 21) (v := 0) C dX9_test_20 rfl rfl ?_
    obtain rfl := Option.some.inj hR
    exact ret 0 ⟨gKd, rfl, rfl⟩ (Nat.le_of_ble_eq_true rfl) (Nat.le_of_ble_eq_true rfl) dX9_test_21
def fX9_test_r  : Option (Int32 × Int32) := ((fX9_start11_r).bind fun x_1 => some (0, 1))
set_option maxHeartbeats 4000000 in
set_option maxRecDepth 100000 in
theorem kX9_test_r (l : Launch) (D : va_G) (cy : Nat → ClassId) (g : Nat) (gth : Int32) (gw : Nat) (gB : Nat) (gK : Nat) (gU : Nat) (gS : Nat) (gbe : Int32) (gwo : Int32) (gta : Int64) (gn : Nat) (glr : Int32) (glc : Int32) (gti : Int32) (ggo : Int32) (gR : Nat) (gch : Int32) (gD : Nat) (gBd : Nat → Nat) (gBG : Nat → Nat → Int32) (gKd : Nat → Nat) (gKG : Nat → Nat → Int32) {res : Int32 × Int32} (hR : fX9_test_r  = some res) : YM l D cy yX9_test hX9_test 3 10 50 [.ref g] [[(g, .inr (11, [.int gth, .ref gw, .ref gB, .ref gK, .ref gU, .ref gS, .int gbe, .int gwo, .long gta, .ref gn, .int glr, .int glc, .int gti, .int ggo, .ref gR, .int gch, .ref gD]))], [(gB, .inl (cy 4, 5, .inr (.inr (.inr (.inr (yad gBd))))))], xg_rows gBd 5 (cy 2) 5 gBG, [(gK, .inl (cy 4, 5, .inr (.inr (.inr (.inr (yad gKd))))))], xg_rows gKd 5 (cy 2) 5 gKG] (fun v u => v = some (.int res.1) ∧ u = [[(g, .inr (11, [.int res.2, .ref gw, .ref gB, .ref gK, .ref gU, .ref gS, .int gbe, .int gwo, .long gta, .ref gn, .int glr, .int glc, .int gti, .int ggo, .ref gR, .int gch, .ref gD]))], [(gB, .inl (cy 4, 5, .inr (.inr (.inr (.inr (yad gBd))))))], xg_rows gBd 5 (cy 2) 5 gBG, [(gK, .inl (cy 4, 5, .inr (.inr (.inr (.inr (yad gKd))))))], xg_rows gKd 5 (cy 2) 5 gKG]) := by
  unfold fX9_test_r at hR
  refine YM.ofI (cc := cX9_test) (maxL := 3) (ret := (some .int)) (by decide +kernel) rfl (Nat.le_of_ble_eq_true rfl) [(0, .ref g)] rfl rfl (fun p e s m args below meth c A H0 Q C hnm ret => ?_)
  refine xr_aload_n (n := 1) (j := 0) C dX9_test_0 rfl rfl ?_
  refine xr_aload_n (n := 2) (j := 0) C dX9_test_1 rfl rfl ?_
  refine xr_get (n := 5) C 0 rfl rfl 9 (by decide) in_X9 u_1246 rfl (v := .ref gn) rfl dX9_test_2 rfl ?_
  refine xr_ifnull (n := 8) C dX9_test_5 rfl ?_
  refine xr_iconst (n := 9) (v := 1) C dX9_test_8 rfl rfl ?_
  refine xr_goto (tgt := 13) C dX9_test_9 rfl ?_
  refine xr_iconst (n := 14) (v := 1) C dX9_test_13 rfl rfl ?_
  obtain ⟨x_1, hx_1, hR⟩ := yf_b hR
  obtain rfl := Option.some.inj (show some ((1) : Int32) = some x_1 from hx_1)
  refine xr_callV (n := 17) (As := [.int 1, .int 1]) (rest := []) C (kX9_start11_r l D cy (g := g) (gth := gth) (gw := gw) (gB := gB) (gK := gK) (gU := gU) (gS := gS) (gbe := gbe) (gwo := gwo) (gta := gta) (gn := gn) (glr := glr) (glc := glc) (gti := gti) (ggo := ggo) (gR := gR) (gch := gch) (gD := gD) hx_1) mX9_start u_1301 u_1303 u_29 0 rfl rfl 5 [0] [1, 2, 3, 4] rfl (by decide +kernel) rfl rfl rfl rfl (Nat.le_of_ble_eq_true rfl) (Nat.le_of_ble_eq_true rfl) (Nat.le_of_ble_eq_true rfl) (Nat.le_of_ble_eq_true rfl) (Nat.le_of_ble_eq_true rfl) dX9_test_14 rfl (fun v_2 u_3 hp_4 => ?_)
  obtain ⟨rfl, rfl⟩ := hp_4
  refine xr_perm C 5 [0, 1, 2, 3, 4] [] [[(g, .inr (11, [.int 1, .ref gw, .ref gB, .ref gK, .ref gU, .ref gS, .int gbe, .int gwo, .long gta, .ref gn, .int glr, .int glc, .int gti, .int ggo, .ref gR, .int gch, .ref gD]))], [(gB, .inl (cy 4, 5, .inr (.inr (.inr (.inr (yad gBd))))))], xg_rows gBd 5 (cy 2) 5 gBG, [(gK, .inl (cy 4, 5, .inr (.inr (.inr (.inr (yad gKd))))))], xg_rows gKd 5 (cy 2) 5 gKG] rfl (by decide +kernel) rfl ?_
  refine xr_st (st' := [.int 1]) rfl ?_
  refine xr_if_eq (tgt := 22) (n := 20) C dX9_test_17 rfl rfl (fun c_5 => absurd c_5 (by decide)) (fun _ => ?_)
  refine xr_iconst (n := 21) (v := 0) C dX9_test_20 rfl rfl ?_
  obtain rfl := Option.some.inj hR
  exact ret 0 ⟨rfl, rfl⟩ (Nat.le_of_ble_eq_true rfl) (Nat.le_of_ble_eq_true rfl) dX9_test_21
theorem dX8_init_0 : decode cX8_init 0 = .ok (.aload_n 0, 1) := by decide +kernel
theorem dX8_init_1 : decode cX8_init 1 = .ok (.invokespecial 1, 3) := by decide +kernel
theorem dX8_init_4 : decode cX8_init 4 = .ok (.return_, 1) := by decide +kernel
def fX8_init  : Option (Unit) := some ()
abbrev hX8_init : Cond := .code yX8_init cX8_init 1 none
theorem mX8_init : yM yX8_init hX8_init 0 := ⟨u_1198, u_65, by decide +kernel, by decide +kernel, by decide +kernel⟩
set_option maxHeartbeats 4000000 in
set_option maxRecDepth 100000 in
theorem kX8_init (l : Launch) (D : va_G) (cy : Nat → ClassId) (vo : Nat) (vr : Int32) (vk : Int32) (vc : Int32) (vg : Int32) (vs : Int32) {res : Unit} (hR : fX8_init  = some res) : YM l D cy yX8_init hX8_init 1 0 0 [.ref vo] [[(vo, .inr (10, [.int vr, .int vk, .int vc, .int vg, .int vs, .null, .null]))]] (fun v u => v = none ∧ u = [[(vo, .inr (10, [.int vr, .int vk, .int vc, .int vg, .int vs, .null, .null]))]]) := by
  unfold fX8_init at hR
  refine YM.ofV (cc := cX8_init) (maxL := 1) (ret := none) (by decide +kernel) rfl (Nat.le_of_ble_eq_true rfl) [(0, .ref vo)] rfl rfl (fun p e s m args below meth c A H0 Q C hnm ret => ?_)
  refine xr_aload_n (n := 1) (j := 0) C dX8_init_0 rfl rfl ?_
  refine xr_objInit (n := 4) C u_1199 u_90 u_91 (Nat.le_of_ble_eq_true rfl) (Nat.le_of_ble_eq_true rfl) (Nat.le_of_ble_eq_true rfl) dX8_init_1 rfl ?_
  obtain rfl := Option.some.inj hR
  exact ret ⟨rfl, rfl⟩ (Nat.le_of_ble_eq_true rfl) (Nat.le_of_ble_eq_true rfl) dX8_init_4
theorem dX8_copy_0 : decode cX8_copy 0 = .ok (.new 8, 3) := by decide +kernel
theorem dX8_copy_3 : decode cX8_copy 3 = .ok (.dup, 1) := by decide +kernel
theorem dX8_copy_4 : decode cX8_copy 4 = .ok (.invokespecial 73, 3) := by decide +kernel
theorem dX8_copy_7 : decode cX8_copy 7 = .ok (.astore_n 1, 1) := by decide +kernel
theorem dX8_copy_8 : decode cX8_copy 8 = .ok (.aload_n 1, 1) := by decide +kernel
theorem dX8_copy_9 : decode cX8_copy 9 = .ok (.aload_n 0, 1) := by decide +kernel
theorem dX8_copy_10 : decode cX8_copy 10 = .ok (.getfield 7, 3) := by decide +kernel
theorem dX8_copy_13 : decode cX8_copy 13 = .ok (.putfield 7, 3) := by decide +kernel
theorem dX8_copy_16 : decode cX8_copy 16 = .ok (.aload_n 1, 1) := by decide +kernel
theorem dX8_copy_17 : decode cX8_copy 17 = .ok (.aload_n 0, 1) := by decide +kernel
theorem dX8_copy_18 : decode cX8_copy 18 = .ok (.getfield 36, 3) := by decide +kernel
theorem dX8_copy_21 : decode cX8_copy 21 = .ok (.putfield 36, 3) := by decide +kernel
theorem dX8_copy_24 : decode cX8_copy 24 = .ok (.aload_n 1, 1) := by decide +kernel
theorem dX8_copy_25 : decode cX8_copy 25 = .ok (.aload_n 0, 1) := by decide +kernel
theorem dX8_copy_26 : decode cX8_copy 26 = .ok (.getfield 23, 3) := by decide +kernel
theorem dX8_copy_29 : decode cX8_copy 29 = .ok (.putfield 23, 3) := by decide +kernel
theorem dX8_copy_32 : decode cX8_copy 32 = .ok (.aload_n 1, 1) := by decide +kernel
theorem dX8_copy_33 : decode cX8_copy 33 = .ok (.aload_n 0, 1) := by decide +kernel
theorem dX8_copy_34 : decode cX8_copy 34 = .ok (.getfield 33, 3) := by decide +kernel
theorem dX8_copy_37 : decode cX8_copy 37 = .ok (.putfield 33, 3) := by decide +kernel
theorem dX8_copy_40 : decode cX8_copy 40 = .ok (.aload_n 1, 1) := by decide +kernel
theorem dX8_copy_41 : decode cX8_copy 41 = .ok (.aload_n 0, 1) := by decide +kernel
theorem dX8_copy_42 : decode cX8_copy 42 = .ok (.getfield 13, 3) := by decide +kernel
theorem dX8_copy_45 : decode cX8_copy 45 = .ok (.putfield 13, 3) := by decide +kernel
theorem dX8_copy_48 : decode cX8_copy 48 = .ok (.aload_n 1, 1) := by decide +kernel
theorem dX8_copy_49 : decode cX8_copy 49 = .ok (.aload_n 0, 1) := by decide +kernel
theorem dX8_copy_50 : decode cX8_copy 50 = .ok (.getfield 7, 3) := by decide +kernel
theorem dX8_copy_53 : decode cX8_copy 53 = .ok (.anewarray 74, 3) := by decide +kernel
theorem dX8_copy_56 : decode cX8_copy 56 = .ok (.putfield 26, 3) := by decide +kernel
theorem dX8_copy_59 : decode cX8_copy 59 = .ok (.aload_n 1, 1) := by decide +kernel
theorem dX8_copy_60 : decode cX8_copy 60 = .ok (.aload_n 0, 1) := by decide +kernel
theorem dX8_copy_61 : decode cX8_copy 61 = .ok (.getfield 36, 3) := by decide +kernel
theorem dX8_copy_64 : decode cX8_copy 64 = .ok (.anewarray 74, 3) := by decide +kernel
theorem dX8_copy_67 : decode cX8_copy 67 = .ok (.putfield 30, 3) := by decide +kernel
theorem dX8_copy_70 : decode cX8_copy 70 = .ok (.iconst 0, 1) := by decide +kernel
theorem dX8_copy_71 : decode cX8_copy 71 = .ok (.istore_n 2, 1) := by decide +kernel
theorem dX8_copy_72 : decode cX8_copy 72 = .ok (.iload_n 2, 1) := by decide +kernel
theorem dX8_copy_73 : decode cX8_copy 73 = .ok (.aload_n 0, 1) := by decide +kernel
theorem dX8_copy_74 : decode cX8_copy 74 = .ok (.getfield 7, 3) := by decide +kernel
theorem dX8_copy_77 : decode cX8_copy 77 = .ok (.if_icmp .ge 27, 3) := by decide +kernel
theorem dX8_copy_80 : decode cX8_copy 80 = .ok (.aload_n 1, 1) := by decide +kernel
theorem dX8_copy_81 : decode cX8_copy 81 = .ok (.getfield 26, 3) := by decide +kernel
theorem dX8_copy_84 : decode cX8_copy 84 = .ok (.iload_n 2, 1) := by decide +kernel
theorem dX8_copy_85 : decode cX8_copy 85 = .ok (.aload_n 0, 1) := by decide +kernel
theorem dX8_copy_86 : decode cX8_copy 86 = .ok (.getfield 26, 3) := by decide +kernel
theorem dX8_copy_89 : decode cX8_copy 89 = .ok (.iload_n 2, 1) := by decide +kernel
theorem dX8_copy_90 : decode cX8_copy 90 = .ok (.aaload, 1) := by decide +kernel
theorem dX8_copy_91 : decode cX8_copy 91 = .ok (.invokevirtual 76, 3) := by decide +kernel
theorem dX8_copy_94 : decode cX8_copy 94 = .ok (.checkcast 74, 3) := by decide +kernel
theorem dX8_copy_97 : decode cX8_copy 97 = .ok (.aastore, 1) := by decide +kernel
theorem dX8_copy_98 : decode cX8_copy 98 = .ok (.iinc 2 1, 3) := by decide +kernel
theorem dX8_copy_101 : decode cX8_copy 101 = .ok (.goto (-29), 3) := by decide +kernel
theorem dX8_copy_104 : decode cX8_copy 104 = .ok (.iconst 0, 1) := by decide +kernel
theorem dX8_copy_105 : decode cX8_copy 105 = .ok (.istore_n 2, 1) := by decide +kernel
theorem dX8_copy_106 : decode cX8_copy 106 = .ok (.iload_n 2, 1) := by decide +kernel
theorem dX8_copy_107 : decode cX8_copy 107 = .ok (.aload_n 0, 1) := by decide +kernel
theorem dX8_copy_108 : decode cX8_copy 108 = .ok (.getfield 36, 3) := by decide +kernel
theorem dX8_copy_111 : decode cX8_copy 111 = .ok (.if_icmp .ge 27, 3) := by decide +kernel
theorem dX8_copy_114 : decode cX8_copy 114 = .ok (.aload_n 1, 1) := by decide +kernel
theorem dX8_copy_115 : decode cX8_copy 115 = .ok (.getfield 30, 3) := by decide +kernel
theorem dX8_copy_118 : decode cX8_copy 118 = .ok (.iload_n 2, 1) := by decide +kernel
theorem dX8_copy_119 : decode cX8_copy 119 = .ok (.aload_n 0, 1) := by decide +kernel
theorem dX8_copy_120 : decode cX8_copy 120 = .ok (.getfield 30, 3) := by decide +kernel
theorem dX8_copy_123 : decode cX8_copy 123 = .ok (.iload_n 2, 1) := by decide +kernel
theorem dX8_copy_124 : decode cX8_copy 124 = .ok (.aaload, 1) := by decide +kernel
theorem dX8_copy_125 : decode cX8_copy 125 = .ok (.invokevirtual 76, 3) := by decide +kernel
theorem dX8_copy_128 : decode cX8_copy 128 = .ok (.checkcast 74, 3) := by decide +kernel
theorem dX8_copy_131 : decode cX8_copy 131 = .ok (.aastore, 1) := by decide +kernel
theorem dX8_copy_132 : decode cX8_copy 132 = .ok (.iinc 2 1, 3) := by decide +kernel
theorem dX8_copy_135 : decode cX8_copy 135 = .ok (.goto (-29), 3) := by decide +kernel
theorem dX8_copy_138 : decode cX8_copy 138 = .ok (.aload_n 1, 1) := by decide +kernel
theorem dX8_copy_139 : decode cX8_copy 139 = .ok (.areturn, 1) := by decide +kernel
def fX8_copy (wr : Int32) (wk : Int32) (wc : Int32) (wg : Int32) (ws : Int32) (wan : Nat) (wak : Nat) (waG : Nat → Nat → Int32) (wbn : Nat) (wbk : Nat) (wbG : Nat → Nat → Int32) : Option (Int32 × Int32 × Int32 × Int32 × Int32 × Nat × Nat × (Nat → Nat → Int32) × Nat × Nat × (Nat → Nat → Int32)) := ((fX8_init).bind fun x_2 => (if ws = 0 ∨ ws = 1 then (if ¬ wr < 0 ∧ wr.toNatClampNeg ≤ 9 then (if ¬ wk < 0 ∧ wk.toNatClampNeg ≤ 9 then ((wl (S := Int32 × Nat × (Nat → Nat → Int32) × Nat × Nat) (B := Int32 × Nat × (Nat → Nat → Int32) × Nat × Nat) (fun s_11 => (if s_11.2.2.2.1 ≤ 30 ∧ s_11.2.2.2.2 ≤ 300 then (if wr ≤ s_11.1 then some (.inr (s_11.1, s_11.2.1, s_11.2.2.1, s_11.2.2.2.1, s_11.2.2.2.2)) else (if ¬ (s_11.1 < 0 ∨ wan ≤ s_11.1.toNatClampNeg) then (if s_11.2.2.2.1 + 1 ≤ 30 ∧ s_11.2.2.2.2 + wak ≤ 300 then (if ¬ (s_11.1 < 0 ∨ wr.toNatClampNeg ≤ s_11.1.toNatClampNeg) then (if s_11.1.toNatClampNeg = s_11.2.1 then some (.inl (s_11.1 + 1, s_11.2.1 + 1, va_up s_11.2.2.1 s_11.2.1 (waG s_11.1.toNatClampNeg), s_11.2.2.2.1 + 1, s_11.2.2.2.2 + wak)) else none) else none) else none) else none)) else none)) yFuel (0, 0, fun _ _ => 0, 0 + 1 + 1 + 1, 0 + 7 + 9 + 9)).bind fun b_11 => (if b_11.2.2.2.1 ≤ 30 ∧ b_11.2.2.2.2 ≤ 300 then ((wl (S := Int32 × Nat × (Nat → Nat → Int32) × Nat × Nat) (B := Int32 × Nat × (Nat → Nat → Int32) × Nat × Nat) (fun s_19 => (if s_19.2.2.2.1 ≤ 30 ∧ s_19.2.2.2.2 ≤ 300 then (if wk ≤ s_19.1 then some (.inr (s_19.1, s_19.2.1, s_19.2.2.1, s_19.2.2.2.1, s_19.2.2.2.2)) else (if ¬ (s_19.1 < 0 ∨ wbn ≤ s_19.1.toNatClampNeg) then (if s_19.2.2.2.1 + 1 ≤ 30 ∧ s_19.2.2.2.2 + wbk ≤ 300 then (if ¬ (s_19.1 < 0 ∨ wk.toNatClampNeg ≤ s_19.1.toNatClampNeg) then (if s_19.1.toNatClampNeg = s_19.2.1 then some (.inl (s_19.1 + 1, s_19.2.1 + 1, va_up s_19.2.2.1 s_19.2.1 (wbG s_19.1.toNatClampNeg), s_19.2.2.2.1 + 1, s_19.2.2.2.2 + wbk)) else none) else none) else none) else none)) else none)) yFuel (0, 0, fun _ _ => 0, b_11.2.2.2.1, b_11.2.2.2.2)).bind fun b_19 => (if b_19.2.2.2.1 ≤ 30 ∧ b_19.2.2.2.2 ≤ 300 then (if b_11.2.1 = wr.toNatClampNeg then (if b_19.2.1 = wk.toNatClampNeg then some (wr, wk, wc, wg, ws, wr.toNatClampNeg, wak, b_11.2.2.1, wk.toNatClampNeg, wbk, b_19.2.2.1) else none) else none) else none)) else none)) else none) else none) else none))
abbrev hX8_copy : Cond := .code yX8_copy cX8_copy 3 (some (.object "PulsemeshModel$Work"))
theorem mX8_copy : yM yX8_copy hX8_copy 0 := ⟨u_1402, u_65, by decide +kernel, by decide +kernel, by decide +kernel⟩
set_option maxHeartbeats 4000000 in
set_option maxRecDepth 100000 in
theorem kX8_copy (l : Launch) (D : va_G) (cy : Nat → ClassId) (w : Nat) (wr : Int32) (wk : Int32) (wc : Int32) (wg : Int32) (ws : Int32) (wa : Nat) (wb : Nat) (wad : Nat → Nat) (wan : Nat) (wak : Nat) (waG : Nat → Nat → Int32) (wbd : Nat → Nat) (wbn : Nat) (wbk : Nat) (wbG : Nat → Nat → Int32) {res : Int32 × Int32 × Int32 × Int32 × Int32 × Nat × Nat × (Nat → Nat → Int32) × Nat × Nat × (Nat → Nat → Int32)} (hR : fX8_copy wr wk wc wg ws wan wak waG wbn wbk wbG = some res) : YM l D cy yX8_copy hX8_copy 2 30 300 [.ref w] [[(w, .inr (10, [.int wr, .int wk, .int wc, .int wg, .int ws, .ref wa, .ref wb]))], [(wa, .inl (cy 3, wan, .inr (.inr (.inr (.inr (yad wad))))))], xg_rows wad wan (cy 1) wak waG, [(wb, .inl (cy 3, wbn, .inr (.inr (.inr (.inr (yad wbd))))))], xg_rows wbd wbn (cy 1) wbk wbG] (fun v u => ∃ vo : Nat, ∃ va : Nat, ∃ vb : Nat, ∃ vad : Nat → Nat, ∃ vbd : Nat → Nat, v = some (.ref vo) ∧ u = [[(w, .inr (10, [.int wr, .int wk, .int wc, .int wg, .int ws, .ref wa, .ref wb]))], [(wa, .inl (cy 3, wan, .inr (.inr (.inr (.inr (yad wad))))))], xg_rows wad wan (cy 1) wak waG, [(wb, .inl (cy 3, wbn, .inr (.inr (.inr (.inr (yad wbd))))))], xg_rows wbd wbn (cy 1) wbk wbG, [(vo, .inr (10, [.int res.1, .int res.2.1, .int res.2.2.1, .int res.2.2.2.1, .int res.2.2.2.2.1, .ref va, .ref vb]))], [(va, .inl (cy 3, res.2.2.2.2.2.1, .inr (.inr (.inr (.inr (yad vad))))))], xg_rows vad res.2.2.2.2.2.1 (cy 1) res.2.2.2.2.2.2.1 res.2.2.2.2.2.2.2.1, [(vb, .inl (cy 3, res.2.2.2.2.2.2.2.2.1, .inr (.inr (.inr (.inr (yad vbd))))))], xg_rows vbd res.2.2.2.2.2.2.2.2.1 (cy 1) res.2.2.2.2.2.2.2.2.2.1 res.2.2.2.2.2.2.2.2.2.2]) := by
  unfold fX8_copy at hR
  refine YM.ofA (cc := cX8_copy) (maxL := 3) (ret := (some (.object "PulsemeshModel$Work"))) (by decide +kernel) rfl (Nat.le_of_ble_eq_true rfl) [(0, .ref w)] rfl (.object "PulsemeshModel$Work") rfl (Or.inl ⟨_, rfl⟩) (fun p e s m args below meth c A H0 Q C hnm ret => ?_)
  refine xr_new (n := 3) (ci := 10) C tyX8 tyX8_ok in_X8 u_1403 u_1195 u_65 rfl [.int 0, .int 0, .int 0, .int 0, .int 0, .null, .null] (by decide) (Nat.le_of_ble_eq_true rfl) (Nat.le_of_ble_eq_true rfl) dX8_copy_0 rfl (fun q_1 => ?_)
  refine xr_eq (bs' := [[(w, .inr (10, [.int wr, .int wk, .int wc, .int wg, .int ws, .ref wa, .ref wb]))], [(wa, .inl (cy 3, wan, .inr (.inr (.inr (.inr (yad wad))))))], xg_rows wad wan (cy 1) wak waG, [(wb, .inl (cy 3, wbn, .inr (.inr (.inr (.inr (yad wbd))))))], xg_rows wbd wbn (cy 1) wbk wbG, [(q_1, .inr (10, [.int 0, .int 0, .int 0, .int 0, .int 0, .null, .null]))]]) rfl ?_
  refine xr_dup (n := 4) C dX8_copy_3 rfl rfl ?_
  obtain ⟨x_2, hx_2, hR⟩ := yf_b hR
  refine xr_callIp (n := 7) (As := []) (rest := [.ref q_1]) C (kX8_init l D cy (vo := q_1) (vr := 0) (vk := 0) (vc := 0) (vg := 0) (vs := 0) hx_2) mX8_init u_1404 u_1197 rfl 6 [5] [0, 1, 2, 3, 4] rfl (by decide +kernel) rfl rfl rfl rfl (Nat.le_of_ble_eq_true rfl) (Nat.le_of_ble_eq_true rfl) (Nat.le_of_ble_eq_true rfl) (Nat.le_of_ble_eq_true rfl) (Nat.le_of_ble_eq_true rfl) dX8_copy_4 rfl (fun _ _ hp => hp.2) (fun v_3 hp_5 => ?_)
  obtain ⟨rfl, -⟩ := hp_5
  refine xr_astore_n (n := 8) C [(1, .ref q_1), (0, .ref w)] dX8_copy_7 (by decide) rfl rfl ?_
  refine xr_aload_n (n := 9) (j := 0) C dX8_copy_8 rfl rfl ?_
  refine xr_aload_n (n := 10) (j := 1) C dX8_copy_9 rfl rfl ?_
  refine xr_get (n := 13) C 0 rfl rfl 0 (by decide) in_X8 u_1200 rfl (v := .int wr) rfl dX8_copy_10 rfl ?_
  refine xr_put (n := 16) C 5 rfl rfl 0 (by decide) in_X8 tyX8 tyX8_ok nmX8 u_1200 rfl rfl rfl rfl (Nat.le_of_ble_eq_true rfl) [[(w, .inr (10, [.int wr, .int wk, .int wc, .int wg, .int ws, .ref wa, .ref wb]))], [(wa, .inl (cy 3, wan, .inr (.inr (.inr (.inr (yad wad))))))], xg_rows wad wan (cy 1) wak waG, [(wb, .inl (cy 3, wbn, .inr (.inr (.inr (.inr (yad wbd))))))], xg_rows wbd wbn (cy 1) wbk wbG, [(q_1, .inr (10, [.int wr, .int 0, .int 0, .int 0, .int 0, .null, .null]))]] rfl rfl dX8_copy_13 ?_
  refine xr_aload_n (n := 17) (j := 0) C dX8_copy_16 rfl rfl ?_
  refine xr_aload_n (n := 18) (j := 1) C dX8_copy_17 rfl rfl ?_
  refine xr_get (n := 21) C 0 rfl rfl 1 (by decide) in_X8 u_1203 rfl (v := .int wk) rfl dX8_copy_18 rfl ?_
  refine xr_put (n := 24) C 5 rfl rfl 1 (by decide) in_X8 tyX8 tyX8_ok nmX8 u_1203 rfl rfl rfl rfl (Nat.le_of_ble_eq_true rfl) [[(w, .inr (10, [.int wr, .int wk, .int wc, .int wg, .int ws, .ref wa, .ref wb]))], [(wa, .inl (cy 3, wan, .inr (.inr (.inr (.inr (yad wad))))))], xg_rows wad wan (cy 1) wak waG, [(wb, .inl (cy 3, wbn, .inr (.inr (.inr (.inr (yad wbd))))))], xg_rows wbd wbn (cy 1) wbk wbG, [(q_1, .inr (10, [.int wr, .int wk, .int 0, .int 0, .int 0, .null, .null]))]] rfl rfl dX8_copy_21 ?_
  refine xr_aload_n (n := 25) (j := 0) C dX8_copy_24 rfl rfl ?_
  refine xr_aload_n (n := 26) (j := 1) C dX8_copy_25 rfl rfl ?_
  refine xr_get (n := 29) C 0 rfl rfl 2 (by decide) in_X8 u_1204 rfl (v := .int wc) rfl dX8_copy_26 rfl ?_
  refine xr_put (n := 32) C 5 rfl rfl 2 (by decide) in_X8 tyX8 tyX8_ok nmX8 u_1204 rfl rfl rfl rfl (Nat.le_of_ble_eq_true rfl) [[(w, .inr (10, [.int wr, .int wk, .int wc, .int wg, .int ws, .ref wa, .ref wb]))], [(wa, .inl (cy 3, wan, .inr (.inr (.inr (.inr (yad wad))))))], xg_rows wad wan (cy 1) wak waG, [(wb, .inl (cy 3, wbn, .inr (.inr (.inr (.inr (yad wbd))))))], xg_rows wbd wbn (cy 1) wbk wbG, [(q_1, .inr (10, [.int wr, .int wk, .int wc, .int 0, .int 0, .null, .null]))]] rfl rfl dX8_copy_29 ?_
  refine xr_aload_n (n := 33) (j := 0) C dX8_copy_32 rfl rfl ?_
  refine xr_aload_n (n := 34) (j := 1) C dX8_copy_33 rfl rfl ?_
  refine xr_get (n := 37) C 0 rfl rfl 3 (by decide) in_X8 u_1206 rfl (v := .int wg) rfl dX8_copy_34 rfl ?_
  refine xr_put (n := 40) C 5 rfl rfl 3 (by decide) in_X8 tyX8 tyX8_ok nmX8 u_1206 rfl rfl rfl rfl (Nat.le_of_ble_eq_true rfl) [[(w, .inr (10, [.int wr, .int wk, .int wc, .int wg, .int ws, .ref wa, .ref wb]))], [(wa, .inl (cy 3, wan, .inr (.inr (.inr (.inr (yad wad))))))], xg_rows wad wan (cy 1) wak waG, [(wb, .inl (cy 3, wbn, .inr (.inr (.inr (.inr (yad wbd))))))], xg_rows wbd wbn (cy 1) wbk wbG, [(q_1, .inr (10, [.int wr, .int wk, .int wc, .int wg, .int 0, .null, .null]))]] rfl rfl dX8_copy_37 ?_
  refine xr_aload_n (n := 41) (j := 0) C dX8_copy_40 rfl rfl ?_
  refine xr_aload_n (n := 42) (j := 1) C dX8_copy_41 rfl rfl ?_
  refine xr_get (n := 45) C 0 rfl rfl 4 (by decide) in_X8 u_1208 rfl (v := .int ws) rfl dX8_copy_42 rfl ?_
  obtain ⟨g_6, hR⟩ := yf_g hR
  refine xr_put (n := 48) C 5 rfl rfl 4 (by decide) in_X8 tyX8 tyX8_ok nmX8 u_1208 rfl rfl (ynz_f g_6) (ynz_n g_6) (Nat.le_of_ble_eq_true rfl) [[(w, .inr (10, [.int wr, .int wk, .int wc, .int wg, .int ws, .ref wa, .ref wb]))], [(wa, .inl (cy 3, wan, .inr (.inr (.inr (.inr (yad wad))))))], xg_rows wad wan (cy 1) wak waG, [(wb, .inl (cy 3, wbn, .inr (.inr (.inr (.inr (yad wbd))))))], xg_rows wbd wbn (cy 1) wbk wbG, [(q_1, .inr (10, [.int wr, .int wk, .int wc, .int wg, .int ws, .null, .null]))]] rfl rfl dX8_copy_45 ?_
  refine xr_aload_n (n := 49) (j := 0) C dX8_copy_48 rfl rfl ?_
  refine xr_aload_n (n := 50) (j := 1) C dX8_copy_49 rfl rfl ?_
  refine xr_get (n := 53) C 0 rfl rfl 0 (by decide) in_X8 u_1200 rfl (v := .int wr) rfl dX8_copy_50 rfl ?_
  obtain ⟨g_8, hR⟩ := yf_g hR
  refine xr_anewI (n := 56) (N' := wr.toNatClampNeg) C u_1405 (by decide) g_8.1 rfl g_8.2 (Nat.le_of_ble_eq_true rfl) (Nat.le_of_ble_eq_true rfl) dX8_copy_53 rfl (fun q_7 => ?_)
  refine xr_eq (bs' := [[(w, .inr (10, [.int wr, .int wk, .int wc, .int wg, .int ws, .ref wa, .ref wb]))], [(wa, .inl (cy 3, wan, .inr (.inr (.inr (.inr (yad wad))))))], xg_rows wad wan (cy 1) wak waG, [(wb, .inl (cy 3, wbn, .inr (.inr (.inr (.inr (yad wbd))))))], xg_rows wbd wbn (cy 1) wbk wbG, [(q_1, .inr (10, [.int wr, .int wk, .int wc, .int wg, .int ws, .null, .null]))], [(q_7, .inl (cy 3, wr.toNatClampNeg, .inr (.inr (.inr (.inr (yadp (fun _ => q_7) 0))))))]]) (by rw [yadp_0 (fun _ => q_7)]; rfl) ?_
  refine xr_flat (bs' := [[(w, .inr (10, [.int wr, .int wk, .int wc, .int wg, .int ws, .ref wa, .ref wb]))], [(wa, .inl (cy 3, wan, .inr (.inr (.inr (.inr (yad wad))))))], xg_rows wad wan (cy 1) wak waG, [(wb, .inl (cy 3, wbn, .inr (.inr (.inr (.inr (yad wbd))))))], xg_rows wbd wbn (cy 1) wbk wbG, [(q_1, .inr (10, [.int wr, .int wk, .int wc, .int wg, .int ws, .null, .null]))], [(q_7, .inl (cy 3, wr.toNatClampNeg, .inr (.inr (.inr (.inr (yadp (fun _ => q_7) 0))))))], xg_rows (fun _ => q_7) 0 (cy 1) wak (fun _ _ => 0)]) rfl ?_
  refine xr_put (n := 59) C 5 rfl rfl 5 (by decide) in_X8 tyX8 tyX8_ok nmX8 u_1210 rfl rfl rfl rfl (Nat.le_of_ble_eq_true rfl) [[(w, .inr (10, [.int wr, .int wk, .int wc, .int wg, .int ws, .ref wa, .ref wb]))], [(wa, .inl (cy 3, wan, .inr (.inr (.inr (.inr (yad wad))))))], xg_rows wad wan (cy 1) wak waG, [(wb, .inl (cy 3, wbn, .inr (.inr (.inr (.inr (yad wbd))))))], xg_rows wbd wbn (cy 1) wbk wbG, [(q_1, .inr (10, [.int wr, .int wk, .int wc, .int wg, .int ws, .ref q_7, .null]))], [(q_7, .inl (cy 3, wr.toNatClampNeg, .inr (.inr (.inr (.inr (yadp (fun _ => q_7) 0))))))], xg_rows (fun _ => q_7) 0 (cy 1) wak (fun _ _ => 0)] rfl rfl dX8_copy_56 ?_
  refine xr_aload_n (n := 60) (j := 0) C dX8_copy_59 rfl rfl ?_
  refine xr_aload_n (n := 61) (j := 1) C dX8_copy_60 rfl rfl ?_
  refine xr_get (n := 64) C 0 rfl rfl 1 (by decide) in_X8 u_1203 rfl (v := .int wk) rfl dX8_copy_61 rfl ?_
  obtain ⟨g_10, hR⟩ := yf_g hR
  refine xr_anewI (n := 67) (N' := wk.toNatClampNeg) C u_1405 (by decide) g_10.1 rfl g_10.2 (Nat.le_of_ble_eq_true rfl) (Nat.le_of_ble_eq_true rfl) dX8_copy_64 rfl (fun q_9 => ?_)
  refine xr_eq (bs' := [[(w, .inr (10, [.int wr, .int wk, .int wc, .int wg, .int ws, .ref wa, .ref wb]))], [(wa, .inl (cy 3, wan, .inr (.inr (.inr (.inr (yad wad))))))], xg_rows wad wan (cy 1) wak waG, [(wb, .inl (cy 3, wbn, .inr (.inr (.inr (.inr (yad wbd))))))], xg_rows wbd wbn (cy 1) wbk wbG, [(q_1, .inr (10, [.int wr, .int wk, .int wc, .int wg, .int ws, .ref q_7, .null]))], [(q_7, .inl (cy 3, wr.toNatClampNeg, .inr (.inr (.inr (.inr (yadp (fun _ => q_7) 0))))))], xg_rows (fun _ => q_7) 0 (cy 1) wak (fun _ _ => 0), [(q_9, .inl (cy 3, wk.toNatClampNeg, .inr (.inr (.inr (.inr (yadp (fun _ => q_9) 0))))))]]) (by rw [yadp_0 (fun _ => q_9)]; rfl) ?_
  refine xr_flat (bs' := [[(w, .inr (10, [.int wr, .int wk, .int wc, .int wg, .int ws, .ref wa, .ref wb]))], [(wa, .inl (cy 3, wan, .inr (.inr (.inr (.inr (yad wad))))))], xg_rows wad wan (cy 1) wak waG, [(wb, .inl (cy 3, wbn, .inr (.inr (.inr (.inr (yad wbd))))))], xg_rows wbd wbn (cy 1) wbk wbG, [(q_1, .inr (10, [.int wr, .int wk, .int wc, .int wg, .int ws, .ref q_7, .null]))], [(q_7, .inl (cy 3, wr.toNatClampNeg, .inr (.inr (.inr (.inr (yadp (fun _ => q_7) 0))))))], xg_rows (fun _ => q_7) 0 (cy 1) wak (fun _ _ => 0), [(q_9, .inl (cy 3, wk.toNatClampNeg, .inr (.inr (.inr (.inr (yadp (fun _ => q_9) 0))))))], xg_rows (fun _ => q_9) 0 (cy 1) wbk (fun _ _ => 0)]) rfl ?_
  refine xr_put (n := 70) C 5 rfl rfl 6 (by decide) in_X8 tyX8 tyX8_ok nmX8 u_1212 rfl rfl rfl rfl (Nat.le_of_ble_eq_true rfl) [[(w, .inr (10, [.int wr, .int wk, .int wc, .int wg, .int ws, .ref wa, .ref wb]))], [(wa, .inl (cy 3, wan, .inr (.inr (.inr (.inr (yad wad))))))], xg_rows wad wan (cy 1) wak waG, [(wb, .inl (cy 3, wbn, .inr (.inr (.inr (.inr (yad wbd))))))], xg_rows wbd wbn (cy 1) wbk wbG, [(q_1, .inr (10, [.int wr, .int wk, .int wc, .int wg, .int ws, .ref q_7, .ref q_9]))], [(q_7, .inl (cy 3, wr.toNatClampNeg, .inr (.inr (.inr (.inr (yadp (fun _ => q_7) 0))))))], xg_rows (fun _ => q_7) 0 (cy 1) wak (fun _ _ => 0), [(q_9, .inl (cy 3, wk.toNatClampNeg, .inr (.inr (.inr (.inr (yadp (fun _ => q_9) 0))))))], xg_rows (fun _ => q_9) 0 (cy 1) wbk (fun _ _ => 0)] rfl rfl dX8_copy_67 ?_
  refine xr_iconst (n := 71) (v := 0) C dX8_copy_70 rfl rfl ?_
  refine xr_istore_n (n := 72) C [(2, .int 0), (1, .ref q_1), (0, .ref w)] dX8_copy_71 (by decide) rfl rfl ?_
  refine xr_lv (lv' := [(0, .ref w), (1, .ref q_1), (2, .int 0)]) [2, 1, 0] rfl ?_
  obtain ⟨b_11, hb_11, hR⟩ := yf_b hR
  have K_11 : ∀ a0_11 : Nat → Nat, X p l e (yR 2 30 300) s m args below meth c D A H0 3 Q [[(w, .inr (10, [.int wr, .int wk, .int wc, .int wg, .int ws, .ref wa, .ref wb]))], [(wa, .inl (cy 3, wan, .inr (.inr (.inr (.inr (yad wad))))))], xg_rows wad wan (cy 1) wak waG, [(wb, .inl (cy 3, wbn, .inr (.inr (.inr (.inr (yad wbd))))))], xg_rows wbd wbn (cy 1) wbk wbG, [(q_1, .inr (10, [.int wr, .int wk, .int wc, .int wg, .int ws, .ref q_7, .ref q_9]))], [(q_7, .inl (cy 3, wr.toNatClampNeg, .inr (.inr (.inr (.inr (yadp a0_11 b_11.2.1))))))], xg_rows a0_11 b_11.2.1 (cy 1) wak b_11.2.2.1, [(q_9, .inl (cy 3, wk.toNatClampNeg, .inr (.inr (.inr (.inr (yadp (fun _ => q_9) 0))))))], xg_rows (fun _ => q_9) 0 (cy 1) wbk (fun _ _ => 0)] b_11.2.2.2.1 b_11.2.2.2.2 [(0, .ref w), (1, .ref q_1)] 104 [] := by
    intro a0_11
    obtain ⟨g_12, hR⟩ := yf_g hR
    refine xr_iconst (n := 105) (v := 0) C dX8_copy_104 rfl rfl ?_
    refine xr_istore_n (n := 106) C [(2, .int 0), (0, .ref w), (1, .ref q_1)] dX8_copy_105 (by decide) rfl rfl ?_
    refine xr_lv (lv' := [(0, .ref w), (1, .ref q_1), (2, .int 0)]) [1, 2, 0] rfl ?_
    obtain ⟨b_19, hb_19, hR⟩ := yf_b hR
    have K_19 : ∀ a0_19 : Nat → Nat, X p l e (yR 2 30 300) s m args below meth c D A H0 3 Q [[(w, .inr (10, [.int wr, .int wk, .int wc, .int wg, .int ws, .ref wa, .ref wb]))], [(wa, .inl (cy 3, wan, .inr (.inr (.inr (.inr (yad wad))))))], xg_rows wad wan (cy 1) wak waG, [(wb, .inl (cy 3, wbn, .inr (.inr (.inr (.inr (yad wbd))))))], xg_rows wbd wbn (cy 1) wbk wbG, [(q_1, .inr (10, [.int wr, .int wk, .int wc, .int wg, .int ws, .ref q_7, .ref q_9]))], [(q_7, .inl (cy 3, wr.toNatClampNeg, .inr (.inr (.inr (.inr (yadp a0_11 b_11.2.1))))))], xg_rows a0_11 b_11.2.1 (cy 1) wak b_11.2.2.1, [(q_9, .inl (cy 3, wk.toNatClampNeg, .inr (.inr (.inr (.inr (yadp a0_19 b_19.2.1))))))], xg_rows a0_19 b_19.2.1 (cy 1) wbk b_19.2.2.1] b_19.2.2.2.1 b_19.2.2.2.2 [(1, .ref q_1)] 138 [] := by
      intro a0_19
      obtain ⟨g_20, hR⟩ := yf_g hR
      obtain ⟨g_21, hR⟩ := yf_g hR
      refine xr_perm C 10 [6, 7, 0, 1, 2, 3, 4, 5, 8, 9] [] [[(q_7, .inl (cy 3, wr.toNatClampNeg, .inr (.inr (.inr (.inr (yadp a0_11 b_11.2.1))))))], xg_rows a0_11 b_11.2.1 (cy 1) wak b_11.2.2.1, [(w, .inr (10, [.int wr, .int wk, .int wc, .int wg, .int ws, .ref wa, .ref wb]))], [(wa, .inl (cy 3, wan, .inr (.inr (.inr (.inr (yad wad))))))], xg_rows wad wan (cy 1) wak waG, [(wb, .inl (cy 3, wbn, .inr (.inr (.inr (.inr (yad wbd))))))], xg_rows wbd wbn (cy 1) wbk wbG, [(q_1, .inr (10, [.int wr, .int wk, .int wc, .int wg, .int ws, .ref q_7, .ref q_9]))], [(q_9, .inl (cy 3, wk.toNatClampNeg, .inr (.inr (.inr (.inr (yadp a0_19 b_19.2.1))))))], xg_rows a0_19 b_19.2.1 (cy 1) wbk b_19.2.2.1] rfl (by decide +kernel) rfl ?_
      refine xr_full C g_21 ?_
      obtain ⟨g_22, hR⟩ := yf_g hR
      refine xr_perm C 10 [8, 9, 0, 1, 2, 3, 4, 5, 6, 7] [] [[(q_9, .inl (cy 3, wk.toNatClampNeg, .inr (.inr (.inr (.inr (yadp a0_19 b_19.2.1))))))], xg_rows a0_19 b_19.2.1 (cy 1) wbk b_19.2.2.1, [(q_7, .inl (cy 3, wr.toNatClampNeg, .inr (.inr (.inr (.inr (yad a0_11))))))], xg_rows a0_11 wr.toNatClampNeg (cy 1) wak b_11.2.2.1, [(w, .inr (10, [.int wr, .int wk, .int wc, .int wg, .int ws, .ref wa, .ref wb]))], [(wa, .inl (cy 3, wan, .inr (.inr (.inr (.inr (yad wad))))))], xg_rows wad wan (cy 1) wak waG, [(wb, .inl (cy 3, wbn, .inr (.inr (.inr (.inr (yad wbd))))))], xg_rows wbd wbn (cy 1) wbk wbG, [(q_1, .inr (10, [.int wr, .int wk, .int wc, .int wg, .int ws, .ref q_7, .ref q_9]))]] rfl (by decide +kernel) rfl ?_
      refine xr_full C g_22 ?_
      refine xr_aload_n (n := 139) (j := 0) C dX8_copy_138 rfl rfl ?_
      obtain rfl := Option.some.inj hR
      refine xr_perm C 10 [4, 5, 6, 7, 8, 9, 2, 3, 0, 1] [] [[(w, .inr (10, [.int wr, .int wk, .int wc, .int wg, .int ws, .ref wa, .ref wb]))], [(wa, .inl (cy 3, wan, .inr (.inr (.inr (.inr (yad wad))))))], xg_rows wad wan (cy 1) wak waG, [(wb, .inl (cy 3, wbn, .inr (.inr (.inr (.inr (yad wbd))))))], xg_rows wbd wbn (cy 1) wbk wbG, [(q_1, .inr (10, [.int wr, .int wk, .int wc, .int wg, .int ws, .ref q_7, .ref q_9]))], [(q_7, .inl (cy 3, wr.toNatClampNeg, .inr (.inr (.inr (.inr (yad a0_11))))))], xg_rows a0_11 wr.toNatClampNeg (cy 1) wak b_11.2.2.1, [(q_9, .inl (cy 3, wk.toNatClampNeg, .inr (.inr (.inr (.inr (yad a0_19))))))], xg_rows a0_19 wk.toNatClampNeg (cy 1) wbk b_19.2.2.1] rfl (by decide +kernel) rfl ?_
      exact ret q_1 ⟨q_1, q_7, q_9, a0_11, a0_19, rfl, rfl⟩ g_20.1 g_20.2 dX8_copy_139
    refine y_loop (P := fun (s_19 : Int32 × Nat × (Nat → Nat → Int32) × Nat × Nat) => ∀ a0_19 : Nat → Nat, X p l e (yR 2 30 300) s m args below meth c D A H0 3 Q [[(w, .inr (10, [.int wr, .int wk, .int wc, .int wg, .int ws, .ref wa, .ref wb]))], [(wa, .inl (cy 3, wan, .inr (.inr (.inr (.inr (yad wad))))))], xg_rows wad wan (cy 1) wak waG, [(wb, .inl (cy 3, wbn, .inr (.inr (.inr (.inr (yad wbd))))))], xg_rows wbd wbn (cy 1) wbk wbG, [(q_1, .inr (10, [.int wr, .int wk, .int wc, .int wg, .int ws, .ref q_7, .ref q_9]))], [(q_7, .inl (cy 3, wr.toNatClampNeg, .inr (.inr (.inr (.inr (yadp a0_11 b_11.2.1))))))], xg_rows a0_11 b_11.2.1 (cy 1) wak b_11.2.2.1, [(q_9, .inl (cy 3, wk.toNatClampNeg, .inr (.inr (.inr (.inr (yadp a0_19 s_19.2.1))))))], xg_rows a0_19 s_19.2.1 (cy 1) wbk s_19.2.2.1] s_19.2.2.2.1 s_19.2.2.2.2 [(0, .ref w), (1, .ref q_1), (2, .int s_19.1)] 106 []) ?_ _ (0, 0, fun _ _ => 0, b_11.2.2.2.1, b_11.2.2.2.2) hb_19 (fun _ => q_9)
    intro s_19 o_19 ho_19 hk_19 hx_19 a0_19
    obtain ⟨g_23, ho_19⟩ := yf_g ho_19
    refine xr_iload_n (n := 107) (j := 2) C dX8_copy_106 rfl rfl ?_
    refine xr_aload_n (n := 108) (j := 0) C dX8_copy_107 rfl rfl ?_
    refine xr_get (n := 111) C 0 rfl rfl 1 (by decide) in_X8 u_1203 rfl (v := .int wk) rfl dX8_copy_108 rfl ?_
    refine xr_icmp_ge (tgt := 138) (n := 114) C dX8_copy_111 rfl rfl (fun c_24 => ?_) (fun c_24 => ?_)
    · replace ho_19 := yf_t c_24 ho_19
      refine xr_lv (lv' := [(1, .ref q_1)]) [1] rfl ?_
      have e_25 := hx_19 _ (Option.some.inj ho_19).symm
      subst e_25
      exact K_19 a0_19
    · replace ho_19 := yf_f c_24 ho_19
      refine xr_aload_n (n := 115) (j := 1) C dX8_copy_114 rfl rfl ?_
      refine xr_get (n := 118) C 5 rfl rfl 6 (by decide) in_X8 u_1212 rfl (v := .ref q_9) rfl dX8_copy_115 rfl ?_
      refine xr_iload_n (n := 119) (j := 2) C dX8_copy_118 rfl rfl ?_
      refine xr_aload_n (n := 120) (j := 0) C dX8_copy_119 rfl rfl ?_
      refine xr_get (n := 123) C 0 rfl rfl 6 (by decide) in_X8 u_1212 rfl (v := .ref wb) rfl dX8_copy_120 rfl ?_
      refine xr_iload_n (n := 124) (j := 2) C dX8_copy_123 rfl rfl ?_
      obtain ⟨g_26, ho_19⟩ := yf_g ho_19
      refine xr_aald (n := 125) C 3 0 rfl 3 rfl rfl g_26 rfl dX8_copy_124 rfl ?_
      obtain ⟨g_27, ho_19⟩ := yf_g ho_19
      refine xr_cloneI (n := 131) C u_1406 u_1407 u_972 u_973 u_1408 (List.mem_of_getElem? (i := 61) rfl) u_1405 4 s_19.1.toNatClampNeg rfl (xg_at (ylt g_26)) (Nat.le_of_ble_eq_true rfl) (Nat.le_of_ble_eq_true rfl) g_27.1 g_27.2 dX8_copy_125 dX8_copy_128 rfl (fun q_28 => ?_)
      refine xr_eq (bs' := [[(w, .inr (10, [.int wr, .int wk, .int wc, .int wg, .int ws, .ref wa, .ref wb]))], [(wa, .inl (cy 3, wan, .inr (.inr (.inr (.inr (yad wad))))))], xg_rows wad wan (cy 1) wak waG, [(wb, .inl (cy 3, wbn, .inr (.inr (.inr (.inr (yad wbd))))))], xg_rows wbd wbn (cy 1) wbk wbG, [(q_1, .inr (10, [.int wr, .int wk, .int wc, .int wg, .int ws, .ref q_7, .ref q_9]))], [(q_7, .inl (cy 3, wr.toNatClampNeg, .inr (.inr (.inr (.inr (yadp a0_11 b_11.2.1))))))], xg_rows a0_11 b_11.2.1 (cy 1) wak b_11.2.2.1, [(q_9, .inl (cy 3, wk.toNatClampNeg, .inr (.inr (.inr (.inr (yadp a0_19 s_19.2.1))))))], xg_rows a0_19 s_19.2.1 (cy 1) wbk s_19.2.2.1, [(q_28, .inl (cy 1, wbk, .inl (wbG s_19.1.toNatClampNeg)))]]) rfl ?_
      obtain ⟨g_29, ho_19⟩ := yf_g ho_19
      obtain ⟨g_30, ho_19⟩ := yf_g ho_19
      refine xr_aastI (n := 132) C 8 0 rfl rfl 10 0 rfl rfl g_29 [[(w, .inr (10, [.int wr, .int wk, .int wc, .int wg, .int ws, .ref wa, .ref wb]))], [(wa, .inl (cy 3, wan, .inr (.inr (.inr (.inr (yad wad))))))], xg_rows wad wan (cy 1) wak waG, [(wb, .inl (cy 3, wbn, .inr (.inr (.inr (.inr (yad wbd))))))], xg_rows wbd wbn (cy 1) wbk wbG, [(q_1, .inr (10, [.int wr, .int wk, .int wc, .int wg, .int ws, .ref q_7, .ref q_9]))], [(q_7, .inl (cy 3, wr.toNatClampNeg, .inr (.inr (.inr (.inr (yadp a0_11 b_11.2.1))))))], xg_rows a0_11 b_11.2.1 (cy 1) wak b_11.2.2.1, [(q_9, .inl (cy 3, wk.toNatClampNeg, .inr (.inr (.inr (.inr (yadp (va_up a0_19 s_19.2.1 q_28) (s_19.2.1 + 1)))))))], xg_rows a0_19 s_19.2.1 (cy 1) wbk s_19.2.2.1, [(q_28, .inl (cy 1, wbk, .inl (wbG s_19.1.toNatClampNeg)))]] (by rw [yadp_up g_30]; rfl) dX8_copy_131 rfl ?_
      refine xr_perm C 11 [9, 10, 0, 1, 2, 3, 4, 5, 6, 7, 8] [] [xg_rows a0_19 s_19.2.1 (cy 1) wbk s_19.2.2.1, [(q_28, .inl (cy 1, wbk, .inl (wbG s_19.1.toNatClampNeg)))], [(w, .inr (10, [.int wr, .int wk, .int wc, .int wg, .int ws, .ref wa, .ref wb]))], [(wa, .inl (cy 3, wan, .inr (.inr (.inr (.inr (yad wad))))))], xg_rows wad wan (cy 1) wak waG, [(wb, .inl (cy 3, wbn, .inr (.inr (.inr (.inr (yad wbd))))))], xg_rows wbd wbn (cy 1) wbk wbG, [(q_1, .inr (10, [.int wr, .int wk, .int wc, .int wg, .int ws, .ref q_7, .ref q_9]))], [(q_7, .inl (cy 3, wr.toNatClampNeg, .inr (.inr (.inr (.inr (yadp a0_11 b_11.2.1))))))], xg_rows a0_11 b_11.2.1 (cy 1) wak b_11.2.2.1, [(q_9, .inl (cy 3, wk.toNatClampNeg, .inr (.inr (.inr (.inr (yadp (va_up a0_19 s_19.2.1 q_28) (s_19.2.1 + 1)))))))]] rfl (by decide +kernel) rfl ?_
      refine xr_rowpush ?_
      refine xr_iinc (j := 2) (v := s_19.1 + 1) (n := 135) C [(2, .int (s_19.1 + 1)), (0, .ref w), (1, .ref q_1)] dX8_copy_132 rfl rfl (by decide) rfl rfl ?_
      refine xr_goto (tgt := 106) C dX8_copy_135 rfl ?_
      refine xr_lv (lv' := [(0, .ref w), (1, .ref q_1), (2, .int (s_19.1 + 1))]) [1, 2, 0] rfl ?_
      refine xr_perm C 10 [1, 2, 3, 4, 5, 6, 7, 8, 9, 0] [] [[(w, .inr (10, [.int wr, .int wk, .int wc, .int wg, .int ws, .ref wa, .ref wb]))], [(wa, .inl (cy 3, wan, .inr (.inr (.inr (.inr (yad wad))))))], xg_rows wad wan (cy 1) wak waG, [(wb, .inl (cy 3, wbn, .inr (.inr (.inr (.inr (yad wbd))))))], xg_rows wbd wbn (cy 1) wbk wbG, [(q_1, .inr (10, [.int wr, .int wk, .int wc, .int wg, .int ws, .ref q_7, .ref q_9]))], [(q_7, .inl (cy 3, wr.toNatClampNeg, .inr (.inr (.inr (.inr (yadp a0_11 b_11.2.1))))))], xg_rows a0_11 b_11.2.1 (cy 1) wak b_11.2.2.1, [(q_9, .inl (cy 3, wk.toNatClampNeg, .inr (.inr (.inr (.inr (yadp (va_up a0_19 s_19.2.1 q_28) (s_19.2.1 + 1)))))))], xg_rows (va_up a0_19 s_19.2.1 q_28) (s_19.2.1 + 1) (cy 1) wbk (va_up s_19.2.2.1 s_19.2.1 (wbG s_19.1.toNatClampNeg))] rfl (by decide +kernel) rfl ?_
      exact hk_19 (s_19.1 + 1, s_19.2.1 + 1, va_up s_19.2.2.1 s_19.2.1 (wbG s_19.1.toNatClampNeg), s_19.2.2.2.1 + 1, s_19.2.2.2.2 + wbk) (Option.some.inj ho_19).symm (va_up a0_19 s_19.2.1 q_28)
  refine y_loop (P := fun (s_11 : Int32 × Nat × (Nat → Nat → Int32) × Nat × Nat) => ∀ a0_11 : Nat → Nat, X p l e (yR 2 30 300) s m args below meth c D A H0 3 Q [[(w, .inr (10, [.int wr, .int wk, .int wc, .int wg, .int ws, .ref wa, .ref wb]))], [(wa, .inl (cy 3, wan, .inr (.inr (.inr (.inr (yad wad))))))], xg_rows wad wan (cy 1) wak waG, [(wb, .inl (cy 3, wbn, .inr (.inr (.inr (.inr (yad wbd))))))], xg_rows wbd wbn (cy 1) wbk wbG, [(q_1, .inr (10, [.int wr, .int wk, .int wc, .int wg, .int ws, .ref q_7, .ref q_9]))], [(q_7, .inl (cy 3, wr.toNatClampNeg, .inr (.inr (.inr (.inr (yadp a0_11 s_11.2.1))))))], xg_rows a0_11 s_11.2.1 (cy 1) wak s_11.2.2.1, [(q_9, .inl (cy 3, wk.toNatClampNeg, .inr (.inr (.inr (.inr (yadp (fun _ => q_9) 0))))))], xg_rows (fun _ => q_9) 0 (cy 1) wbk (fun _ _ => 0)] s_11.2.2.2.1 s_11.2.2.2.2 [(0, .ref w), (1, .ref q_1), (2, .int s_11.1)] 72 []) ?_ _ (0, 0, fun _ _ => 0, 0 + 1 + 1 + 1, 0 + 7 + 9 + 9) hb_11 (fun _ => q_7)
  intro s_11 o_11 ho_11 hk_11 hx_11 a0_11
  obtain ⟨g_31, ho_11⟩ := yf_g ho_11
  refine xr_iload_n (n := 73) (j := 2) C dX8_copy_72 rfl rfl ?_
  refine xr_aload_n (n := 74) (j := 0) C dX8_copy_73 rfl rfl ?_
  refine xr_get (n := 77) C 0 rfl rfl 0 (by decide) in_X8 u_1200 rfl (v := .int wr) rfl dX8_copy_74 rfl ?_
  refine xr_icmp_ge (tgt := 104) (n := 80) C dX8_copy_77 rfl rfl (fun c_32 => ?_) (fun c_32 => ?_)
  · replace ho_11 := yf_t c_32 ho_11
    refine xr_lv (lv' := [(0, .ref w), (1, .ref q_1)]) [0, 1] rfl ?_
    have e_33 := hx_11 _ (Option.some.inj ho_11).symm
    subst e_33
    exact K_11 a0_11
  · replace ho_11 := yf_f c_32 ho_11
    refine xr_aload_n (n := 81) (j := 1) C dX8_copy_80 rfl rfl ?_
    refine xr_get (n := 84) C 5 rfl rfl 5 (by decide) in_X8 u_1210 rfl (v := .ref q_7) rfl dX8_copy_81 rfl ?_
    refine xr_iload_n (n := 85) (j := 2) C dX8_copy_84 rfl rfl ?_
    refine xr_aload_n (n := 86) (j := 0) C dX8_copy_85 rfl rfl ?_
    refine xr_get (n := 89) C 0 rfl rfl 5 (by decide) in_X8 u_1210 rfl (v := .ref wa) rfl dX8_copy_86 rfl ?_
    refine xr_iload_n (n := 90) (j := 2) C dX8_copy_89 rfl rfl ?_
    obtain ⟨g_34, ho_11⟩ := yf_g ho_11
    refine xr_aald (n := 91) C 1 0 rfl 3 rfl rfl g_34 rfl dX8_copy_90 rfl ?_
    obtain ⟨g_35, ho_11⟩ := yf_g ho_11
    refine xr_cloneI (n := 97) C u_1406 u_1407 u_972 u_973 u_1408 (List.mem_of_getElem? (i := 61) rfl) u_1405 2 s_11.1.toNatClampNeg rfl (xg_at (ylt g_34)) (Nat.le_of_ble_eq_true rfl) (Nat.le_of_ble_eq_true rfl) g_35.1 g_35.2 dX8_copy_91 dX8_copy_94 rfl (fun q_36 => ?_)
    refine xr_eq (bs' := [[(w, .inr (10, [.int wr, .int wk, .int wc, .int wg, .int ws, .ref wa, .ref wb]))], [(wa, .inl (cy 3, wan, .inr (.inr (.inr (.inr (yad wad))))))], xg_rows wad wan (cy 1) wak waG, [(wb, .inl (cy 3, wbn, .inr (.inr (.inr (.inr (yad wbd))))))], xg_rows wbd wbn (cy 1) wbk wbG, [(q_1, .inr (10, [.int wr, .int wk, .int wc, .int wg, .int ws, .ref q_7, .ref q_9]))], [(q_7, .inl (cy 3, wr.toNatClampNeg, .inr (.inr (.inr (.inr (yadp a0_11 s_11.2.1))))))], xg_rows a0_11 s_11.2.1 (cy 1) wak s_11.2.2.1, [(q_9, .inl (cy 3, wk.toNatClampNeg, .inr (.inr (.inr (.inr (yadp (fun _ => q_9) 0))))))], xg_rows (fun _ => q_9) 0 (cy 1) wbk (fun _ _ => 0), [(q_36, .inl (cy 1, wak, .inl (waG s_11.1.toNatClampNeg)))]]) rfl ?_
    obtain ⟨g_37, ho_11⟩ := yf_g ho_11
    obtain ⟨g_38, ho_11⟩ := yf_g ho_11
    refine xr_aastI (n := 98) C 6 0 rfl rfl 10 0 rfl rfl g_37 [[(w, .inr (10, [.int wr, .int wk, .int wc, .int wg, .int ws, .ref wa, .ref wb]))], [(wa, .inl (cy 3, wan, .inr (.inr (.inr (.inr (yad wad))))))], xg_rows wad wan (cy 1) wak waG, [(wb, .inl (cy 3, wbn, .inr (.inr (.inr (.inr (yad wbd))))))], xg_rows wbd wbn (cy 1) wbk wbG, [(q_1, .inr (10, [.int wr, .int wk, .int wc, .int wg, .int ws, .ref q_7, .ref q_9]))], [(q_7, .inl (cy 3, wr.toNatClampNeg, .inr (.inr (.inr (.inr (yadp (va_up a0_11 s_11.2.1 q_36) (s_11.2.1 + 1)))))))], xg_rows a0_11 s_11.2.1 (cy 1) wak s_11.2.2.1, [(q_9, .inl (cy 3, wk.toNatClampNeg, .inr (.inr (.inr (.inr (yadp (fun _ => q_9) 0))))))], xg_rows (fun _ => q_9) 0 (cy 1) wbk (fun _ _ => 0), [(q_36, .inl (cy 1, wak, .inl (waG s_11.1.toNatClampNeg)))]] (by rw [yadp_up g_38]; rfl) dX8_copy_97 rfl ?_
    refine xr_perm C 11 [7, 10, 0, 1, 2, 3, 4, 5, 6, 8, 9] [] [xg_rows a0_11 s_11.2.1 (cy 1) wak s_11.2.2.1, [(q_36, .inl (cy 1, wak, .inl (waG s_11.1.toNatClampNeg)))], [(w, .inr (10, [.int wr, .int wk, .int wc, .int wg, .int ws, .ref wa, .ref wb]))], [(wa, .inl (cy 3, wan, .inr (.inr (.inr (.inr (yad wad))))))], xg_rows wad wan (cy 1) wak waG, [(wb, .inl (cy 3, wbn, .inr (.inr (.inr (.inr (yad wbd))))))], xg_rows wbd wbn (cy 1) wbk wbG, [(q_1, .inr (10, [.int wr, .int wk, .int wc, .int wg, .int ws, .ref q_7, .ref q_9]))], [(q_7, .inl (cy 3, wr.toNatClampNeg, .inr (.inr (.inr (.inr (yadp (va_up a0_11 s_11.2.1 q_36) (s_11.2.1 + 1)))))))], [(q_9, .inl (cy 3, wk.toNatClampNeg, .inr (.inr (.inr (.inr (yadp (fun _ => q_9) 0))))))], xg_rows (fun _ => q_9) 0 (cy 1) wbk (fun _ _ => 0)] rfl (by decide +kernel) rfl ?_
    refine xr_rowpush ?_
    refine xr_iinc (j := 2) (v := s_11.1 + 1) (n := 101) C [(2, .int (s_11.1 + 1)), (0, .ref w), (1, .ref q_1)] dX8_copy_98 rfl rfl (by decide) rfl rfl ?_
    refine xr_goto (tgt := 72) C dX8_copy_101 rfl ?_
    refine xr_lv (lv' := [(0, .ref w), (1, .ref q_1), (2, .int (s_11.1 + 1))]) [1, 2, 0] rfl ?_
    refine xr_perm C 10 [1, 2, 3, 4, 5, 6, 7, 0, 8, 9] [] [[(w, .inr (10, [.int wr, .int wk, .int wc, .int wg, .int ws, .ref wa, .ref wb]))], [(wa, .inl (cy 3, wan, .inr (.inr (.inr (.inr (yad wad))))))], xg_rows wad wan (cy 1) wak waG, [(wb, .inl (cy 3, wbn, .inr (.inr (.inr (.inr (yad wbd))))))], xg_rows wbd wbn (cy 1) wbk wbG, [(q_1, .inr (10, [.int wr, .int wk, .int wc, .int wg, .int ws, .ref q_7, .ref q_9]))], [(q_7, .inl (cy 3, wr.toNatClampNeg, .inr (.inr (.inr (.inr (yadp (va_up a0_11 s_11.2.1 q_36) (s_11.2.1 + 1)))))))], xg_rows (va_up a0_11 s_11.2.1 q_36) (s_11.2.1 + 1) (cy 1) wak (va_up s_11.2.2.1 s_11.2.1 (waG s_11.1.toNatClampNeg)), [(q_9, .inl (cy 3, wk.toNatClampNeg, .inr (.inr (.inr (.inr (yadp (fun _ => q_9) 0))))))], xg_rows (fun _ => q_9) 0 (cy 1) wbk (fun _ _ => 0)] rfl (by decide +kernel) rfl ?_
    exact hk_11 (s_11.1 + 1, s_11.2.1 + 1, va_up s_11.2.2.1 s_11.2.1 (waG s_11.1.toNatClampNeg), s_11.2.2.2.1 + 1, s_11.2.2.2.2 + wak) (Option.some.inj ho_11).symm (va_up a0_11 s_11.2.1 q_36)
theorem dX9_start__0 : decode cX9_start_ 0 = .ok (.aload_n 0, 1) := by decide +kernel
theorem dX9_start__1 : decode cX9_start_ 1 = .ok (.aload_n 0, 1) := by decide +kernel
theorem dX9_start__2 : decode cX9_start_ 2 = .ok (.getfield 137, 3) := by decide +kernel
theorem dX9_start__5 : decode cX9_start_ 5 = .ok (.ifnonnull 11, 3) := by decide +kernel
theorem dX9_start__8 : decode cX9_start_ 8 = .ok (.aload_n 0, 1) := by decide +kernel
theorem dX9_start__9 : decode cX9_start_ 9 = .ok (.invokevirtual 173, 3) := by decide +kernel
theorem dX9_start__12 : decode cX9_start_ 12 = .ok (.arraylength, 1) := by decide +kernel
theorem dX9_start__13 : decode cX9_start_ 13 = .ok (.ifCond .ne 7, 3) := by decide +kernel
theorem dX9_start__16 : decode cX9_start_ 16 = .ok (.iconst 1, 1) := by decide +kernel
theorem dX9_start__17 : decode cX9_start_ 17 = .ok (.goto 4, 3) := by decide +kernel
theorem dX9_start__20 : decode cX9_start_ 20 = .ok (.iconst 0, 1) := by decide +kernel
theorem dX9_start__21 : decode cX9_start_ 21 = .ok (.iconst 1, 1) := by decide +kernel
theorem dX9_start__22 : decode cX9_start_ 22 = .ok (.invokevirtual 79, 3) := by decide +kernel
theorem dX9_start__25 : decode cX9_start_ 25 = .ok (.ifCond .eq 5, 3) := by decide +kernel
theorem dX9_start__28 : decode cX9_start_ 28 = .ok (.iconst 0, 1) := by decide +kernel
theorem dX9_start__29 : decode cX9_start_ 29 = .ok (.ireturn, 1) := by decide +kernel
theorem dX9_start__30 : decode cX9_start_ 30 = .ok (.aload_n 0, 1) := by decide +kernel
theorem dX9_start__31 : decode cX9_start_ 31 = .ok (.invokevirtual 173, 3) := by decide +kernel
theorem dX9_start__34 : decode cX9_start_ 34 = .ok (.astore_n 1, 1) := by decide +kernel
theorem dX9_start__35 : decode cX9_start_ 35 = .ok (.aload_n 0, 1) := by decide +kernel
theorem dX9_start__36 : decode cX9_start_ 36 = .ok (.aload_n 0, 1) := by decide +kernel
theorem dX9_start__37 : decode cX9_start_ 37 = .ok (.getfield 16, 3) := by decide +kernel
theorem dX9_start__40 : decode cX9_start_ 40 = .ok (.invokevirtual 177, 3) := by decide +kernel
theorem dX9_start__43 : decode cX9_start_ 43 = .ok (.putfield 137, 3) := by decide +kernel
theorem dX9_start__46 : decode cX9_start_ 46 = .ok (.aload_n 0, 1) := by decide +kernel
theorem dX9_start__47 : decode cX9_start_ 47 = .ok (.aload_n 1, 1) := by decide +kernel
theorem dX9_start__48 : decode cX9_start_ 48 = .ok (.iconst 0, 1) := by decide +kernel
theorem dX9_start__49 : decode cX9_start_ 49 = .ok (.iaload, 1) := by decide +kernel
theorem dX9_start__50 : decode cX9_start_ 50 = .ok (.putfield 146, 3) := by decide +kernel
theorem dX9_start__53 : decode cX9_start_ 53 = .ok (.aload_n 0, 1) := by decide +kernel
theorem dX9_start__54 : decode cX9_start_ 54 = .ok (.aload_n 1, 1) := by decide +kernel
theorem dX9_start__55 : decode cX9_start_ 55 = .ok (.iconst 1, 1) := by decide +kernel
theorem dX9_start__56 : decode cX9_start_ 56 = .ok (.iaload, 1) := by decide +kernel
theorem dX9_start__57 : decode cX9_start_ 57 = .ok (.putfield 149, 3) := by decide +kernel
theorem dX9_start__60 : decode cX9_start_ 60 = .ok (.aload_n 0, 1) := by decide +kernel
theorem dX9_start__61 : decode cX9_start_ 61 = .ok (.iconst 0, 1) := by decide +kernel
theorem dX9_start__62 : decode cX9_start_ 62 = .ok (.putfield 155, 3) := by decide +kernel
theorem dX9_start__65 : decode cX9_start_ 65 = .ok (.aload_n 0, 1) := by decide +kernel
theorem dX9_start__66 : decode cX9_start_ 66 = .ok (.invokevirtual 181, 3) := by decide +kernel
theorem dX9_start__69 : decode cX9_start_ 69 = .ok (.aload_n 0, 1) := by decide +kernel
theorem dX9_start__70 : decode cX9_start_ 70 = .ok (.dup, 1) := by decide +kernel
theorem dX9_start__71 : decode cX9_start_ 71 = .ok (.getfield 184, 3) := by decide +kernel
theorem dX9_start__74 : decode cX9_start_ 74 = .ok (.iconst 1, 1) := by decide +kernel
theorem dX9_start__75 : decode cX9_start_ 75 = .ok (.iadd, 1) := by decide +kernel
theorem dX9_start__76 : decode cX9_start_ 76 = .ok (.putfield 184, 3) := by decide +kernel
theorem dX9_start__79 : decode cX9_start_ 79 = .ok (.aload_n 0, 1) := by decide +kernel
theorem dX9_start__80 : decode cX9_start_ 80 = .ok (.iconst 0, 1) := by decide +kernel
theorem dX9_start__81 : decode cX9_start_ 81 = .ok (.iconst 0, 1) := by decide +kernel
theorem dX9_start__82 : decode cX9_start_ 82 = .ok (.multianewarray 30 2, 4) := by decide +kernel
theorem dX9_start__86 : decode cX9_start_ 86 = .ok (.putfield 38, 3) := by decide +kernel
theorem dX9_start__89 : decode cX9_start_ 89 = .ok (.aload_n 0, 1) := by decide +kernel
theorem dX9_start__90 : decode cX9_start_ 90 = .ok (.invokevirtual 187, 3) := by decide +kernel
theorem dX9_start__93 : decode cX9_start_ 93 = .ok (.ireturn, 1) := by decide +kernel
def fX9_begin_i (gwo : Int32) (gwr : Int32) (gwk : Int32) (gwc : Int32) (gwg : Int32) (gws : Int32) (gwan : Nat) (gwak : Nat) (gwaG : Nat → Nat → Int32) (gwbn : Nat) (gwbk : Nat) (gwbG : Nat → Nat → Int32) (gKG : Nat → Nat → Int32) (gSG : Nat → Nat → Int32) : Option ((Int32 × Int32) ⊕ (Int32 × Int32 × Int32 × Int32 × Int32 × Int32 × Int32 × (Nat → Nat → Int32) × Int32 × Int32 × Int32 × Int32 × Int32 × Nat × Nat × (Nat → Nat → Int32) × Nat × Nat × (Nat → Nat → Int32))) := ((fX9_bestLayout_i gwr gwk gwc gwg gws gwan gwak gwaG gwbn gwbk gwbG gKG).bind fun x_1 => ((((if (nI x_1.2) = 0 then some 1 else some 0) : Option (Int32))).bind fun r_7 => ((fX9_start_i r_7 1).bind fun x_8 => (if x_8.1 = 0 then ((fX9_bestLayout_i gwr gwk gwc gwg gws gwan gwak gwaG gwbn gwbk gwbG gKG).bind fun x_13 => ((fX8_copy gwr gwk gwc gwg gws gwan gwak gwaG gwbn gwbk gwbG).bind fun x_18 => (if ¬ ((0 : Int32) < 0 ∨ x_13.2 ≤ (0 : Int32).toNatClampNeg) then (if ¬ ((1 : Int32) < 0 ∨ x_13.2 ≤ (1 : Int32).toNatClampNeg) then ((fX9_begin x_18.2.2.2.1 gSG).bind fun x_29 => ((fX9_rest_r (x_13.1 (0 : Int32).toNatClampNeg) (x_13.1 (1 : Int32).toNatClampNeg) 0 x_29.1 x_18.1 x_18.2.1 x_18.2.2.1 x_18.2.2.2.1 x_18.2.2.2.2.1 x_18.2.2.2.2.2.1 x_18.2.2.2.2.2.2.1 x_18.2.2.2.2.2.2.2.1 x_18.2.2.2.2.2.2.2.2.1 x_18.2.2.2.2.2.2.2.2.2.1 x_18.2.2.2.2.2.2.2.2.2.2).bind fun x_35 => some (.inr (x_35, x_8.2, gwo + 1, x_13.1 (0 : Int32).toNatClampNeg, x_13.1 (1 : Int32).toNatClampNeg, 0, x_29.1, x_29.2, x_18.1, x_18.2.1, x_18.2.2.1, x_18.2.2.2.1, x_18.2.2.2.2.1, x_18.2.2.2.2.2.1, x_18.2.2.2.2.2.2.1, x_18.2.2.2.2.2.2.2.1, x_18.2.2.2.2.2.2.2.2.1, x_18.2.2.2.2.2.2.2.2.2.1, x_18.2.2.2.2.2.2.2.2.2.2)))) else none) else none))) else some (.inl (0, x_8.2))))))
abbrev hX9_start_ : Cond := .code yX9_start_ cX9_start_ 2 (some .int)
theorem mX9_start_ : yM yX9_start_ hX9_start_ 0 := ⟨u_1354, u_64, by decide +kernel, by decide +kernel, by decide +kernel⟩
set_option maxHeartbeats 4000000 in
set_option maxRecDepth 100000 in
theorem kX9_begin_i (l : Launch) (D : va_G) (cy : Nat → ClassId) (g : Nat) (gth : Int32) (gw : Nat) (gB : Nat) (gK : Nat) (gU : Nat) (gS : Nat) (gbe : Int32) (gwo : Int32) (gta : Int64) (glr : Int32) (glc : Int32) (gti : Int32) (ggo : Int32) (gR : Nat) (gch : Int32) (gD : Nat) (gwr : Int32) (gwk : Int32) (gwc : Int32) (gwg : Int32) (gws : Int32) (gwa : Nat) (gwb : Nat) (gwad : Nat → Nat) (gwan : Nat) (gwak : Nat) (gwaG : Nat → Nat → Int32) (gwbd : Nat → Nat) (gwbn : Nat) (gwbk : Nat) (gwbG : Nat → Nat → Int32) (gKd : Nat → Nat) (gKG : Nat → Nat → Int32) (gSd : Nat → Nat) (gSG : Nat → Nat → Int32) {res : (Int32 × Int32) ⊕ (Int32 × Int32 × Int32 × Int32 × Int32 × Int32 × Int32 × (Nat → Nat → Int32) × Int32 × Int32 × Int32 × Int32 × Int32 × Nat × Nat × (Nat → Nat → Int32) × Nat × Nat × (Nat → Nat → Int32))} (hR : fX9_begin_i gwo gwr gwk gwc gwg gws gwan gwak gwaG gwbn gwbk gwbG gKG gSG = some res) : YM l D cy yX9_start_ hX9_start_ 6 100 500 [.ref g] [[(g, .inr (11, [.int gth, .ref gw, .ref gB, .ref gK, .ref gU, .ref gS, .int gbe, .int gwo, .long gta, .null, .int glr, .int glc, .int gti, .int ggo, .ref gR, .int gch, .ref gD]))], [(gw, .inr (10, [.int gwr, .int gwk, .int gwc, .int gwg, .int gws, .ref gwa, .ref gwb]))], [(gwa, .inl (cy 3, gwan, .inr (.inr (.inr (.inr (yad gwad))))))], xg_rows gwad gwan (cy 1) gwak gwaG, [(gwb, .inl (cy 3, gwbn, .inr (.inr (.inr (.inr (yad gwbd))))))], xg_rows gwbd gwbn (cy 1) gwbk gwbG, [(gK, .inl (cy 4, 5, .inr (.inr (.inr (.inr (yad gKd))))))], xg_rows gKd 5 (cy 2) 5 gKG, [(gS, .inl (cy 3, 5, .inr (.inr (.inr (.inr (yad gSd))))))], xg_rows gSd 5 (cy 1) 5 gSG] (fun v u => (∃ r, res = .inl r ∧ v = some (.int r.1) ∧ u = [[(g, .inr (11, [.int r.2, .ref gw, .ref gB, .ref gK, .ref gU, .ref gS, .int gbe, .int gwo, .long gta, .null, .int glr, .int glc, .int gti, .int ggo, .ref gR, .int gch, .ref gD]))], [(gw, .inr (10, [.int gwr, .int gwk, .int gwc, .int gwg, .int gws, .ref gwa, .ref gwb]))], [(gwa, .inl (cy 3, gwan, .inr (.inr (.inr (.inr (yad gwad))))))], xg_rows gwad gwan (cy 1) gwak gwaG, [(gwb, .inl (cy 3, gwbn, .inr (.inr (.inr (.inr (yad gwbd))))))], xg_rows gwbd gwbn (cy 1) gwbk gwbG, [(gK, .inl (cy 4, 5, .inr (.inr (.inr (.inr (yad gKd))))))], xg_rows gKd 5 (cy 2) 5 gKG, [(gS, .inl (cy 3, 5, .inr (.inr (.inr (.inr (yad gSd))))))], xg_rows gSd 5 (cy 1) 5 gSG]) ∨ (∃ r, res = .inr r ∧ ∃ gn : Nat, ∃ gR : Nat, ∃ gna : Nat, ∃ gnb : Nat, ∃ gnad : Nat → Nat, ∃ gnbd : Nat → Nat, ∃ gRd : Nat → Nat, v = some (.int r.1) ∧ u = [[(g, .inr (11, [.int r.2.1, .ref gw, .ref gB, .ref gK, .ref gU, .ref gS, .int gbe, .int r.2.2.1, .long gta, .ref gn, .int r.2.2.2.1, .int r.2.2.2.2.1, .int r.2.2.2.2.2.1, .int r.2.2.2.2.2.2.1, .ref gR, .int gch, .ref gD]))], [(gw, .inr (10, [.int gwr, .int gwk, .int gwc, .int gwg, .int gws, .ref gwa, .ref gwb]))], [(gwa, .inl (cy 3, gwan, .inr (.inr (.inr (.inr (yad gwad))))))], xg_rows gwad gwan (cy 1) gwak gwaG, [(gwb, .inl (cy 3, gwbn, .inr (.inr (.inr (.inr (yad gwbd))))))], xg_rows gwbd gwbn (cy 1) gwbk gwbG, [(gK, .inl (cy 4, 5, .inr (.inr (.inr (.inr (yad gKd))))))], xg_rows gKd 5 (cy 2) 5 gKG, [(gS, .inl (cy 3, 5, .inr (.inr (.inr (.inr (yad gSd))))))], xg_rows gSd 5 (cy 1) 5 r.2.2.2.2.2.2.2.1, [(gn, .inr (10, [.int r.2.2.2.2.2.2.2.2.1, .int r.2.2.2.2.2.2.2.2.2.1, .int r.2.2.2.2.2.2.2.2.2.2.1, .int r.2.2.2.2.2.2.2.2.2.2.2.1, .int r.2.2.2.2.2.2.2.2.2.2.2.2.1, .ref gna, .ref gnb]))], [(gna, .inl (cy 3, r.2.2.2.2.2.2.2.2.2.2.2.2.2.1, .inr (.inr (.inr (.inr (yad gnad))))))], xg_rows gnad r.2.2.2.2.2.2.2.2.2.2.2.2.2.1 (cy 1) r.2.2.2.2.2.2.2.2.2.2.2.2.2.2.1 r.2.2.2.2.2.2.2.2.2.2.2.2.2.2.2.1, [(gnb, .inl (cy 3, r.2.2.2.2.2.2.2.2.2.2.2.2.2.2.2.2.1, .inr (.inr (.inr (.inr (yad gnbd))))))], xg_rows gnbd r.2.2.2.2.2.2.2.2.2.2.2.2.2.2.2.2.1 (cy 1) r.2.2.2.2.2.2.2.2.2.2.2.2.2.2.2.2.2.1 r.2.2.2.2.2.2.2.2.2.2.2.2.2.2.2.2.2.2, [(gR, .inl (cy 3, 0, .inr (.inr (.inr (.inr (yad gRd))))))], xg_rows gRd 0 (cy 1) 0 (fun _ _ => 0)])) := by
  unfold fX9_begin_i at hR
  refine YM.ofI (cc := cX9_start_) (maxL := 2) (ret := (some .int)) (by decide +kernel) rfl (Nat.le_of_ble_eq_true rfl) [(0, .ref g)] rfl rfl (fun p e s m args below meth c A H0 Q C hnm ret => ?_)
  refine xr_aload_n (n := 1) (j := 0) C dX9_start__0 rfl rfl ?_
  refine xr_aload_n (n := 2) (j := 0) C dX9_start__1 rfl rfl ?_
  refine xr_get (n := 5) C 0 rfl rfl 9 (by decide) in_X9 u_1246 rfl (v := .null) rfl dX9_start__2 rfl ?_
  refine xr_ifnonnullN (n := 8) C dX9_start__5 rfl ?_
  refine xr_aload_n (n := 9) (j := 0) C dX9_start__8 rfl rfl ?_
  obtain ⟨x_1, hx_1, hR⟩ := yf_b hR
  refine xr_callV (n := 12) (As := []) (rest := [.ref g]) C (kX9_bestLayout_i l D cy (g := g) (gth := gth) (gw := gw) (gB := gB) (gK := gK) (gU := gU) (gS := gS) (gbe := gbe) (gwo := gwo) (gta := gta) (glr := glr) (glc := glc) (gti := gti) (ggo := ggo) (gR := gR) (gch := gch) (gD := gD) (gwr := gwr) (gwk := gwk) (gwc := gwc) (gwg := gwg) (gws := gws) (gwa := gwa) (gwb := gwb) (gwad := gwad) (gwan := gwan) (gwak := gwak) (gwaG := gwaG) (gwbd := gwbd) (gwbn := gwbn) (gwbk := gwbk) (gwbG := gwbG) (gKd := gKd) (gKG := gKG) hx_1) mX9_bestLayout u_1355 u_1357 u_32 0 rfl rfl 10 [0, 1, 2, 3, 4, 5, 6, 7] [8, 9] rfl (by decide +kernel) rfl rfl rfl rfl (Nat.le_of_ble_eq_true rfl) (Nat.le_of_ble_eq_true rfl) (Nat.le_of_ble_eq_true rfl) (Nat.le_of_ble_eq_true rfl) (Nat.le_of_ble_eq_true rfl) dX9_start__9 rfl (fun v_2 u_3 hp_4 => ?_)
  obtain ⟨q_5, rfl, rfl⟩ := hp_4
  refine xr_perm C 11 [0, 1, 2, 3, 4, 5, 6, 7, 9, 10, 8] [] [[(g, .inr (11, [.int gth, .ref gw, .ref gB, .ref gK, .ref gU, .ref gS, .int gbe, .int gwo, .long gta, .null, .int glr, .int glc, .int gti, .int ggo, .ref gR, .int gch, .ref gD]))], [(gw, .inr (10, [.int gwr, .int gwk, .int gwc, .int gwg, .int gws, .ref gwa, .ref gwb]))], [(gwa, .inl (cy 3, gwan, .inr (.inr (.inr (.inr (yad gwad))))))], xg_rows gwad gwan (cy 1) gwak gwaG, [(gwb, .inl (cy 3, gwbn, .inr (.inr (.inr (.inr (yad gwbd))))))], xg_rows gwbd gwbn (cy 1) gwbk gwbG, [(gK, .inl (cy 4, 5, .inr (.inr (.inr (.inr (yad gKd))))))], xg_rows gKd 5 (cy 2) 5 gKG, [(gS, .inl (cy 3, 5, .inr (.inr (.inr (.inr (yad gSd))))))], xg_rows gSd 5 (cy 1) 5 gSG, [(q_5, .inl (cy 1, x_1.2, .inl x_1.1))]] rfl (by decide +kernel) rfl ?_
  refine xr_st (st' := [.ref q_5, .ref g]) rfl ?_
  refine xr_alen (n := 13) C 10 0 rfl 1 rfl rfl dX9_start__12 rfl ?_
  obtain ⟨r_7, hE_7, hR⟩ := yf_b hR
  have J_7 : X p l e (yR 6 100 500) s m args below meth c D A H0 2 Q [[(g, .inr (11, [.int gth, .ref gw, .ref gB, .ref gK, .ref gU, .ref gS, .int gbe, .int gwo, .long gta, .null, .int glr, .int glc, .int gti, .int ggo, .ref gR, .int gch, .ref gD]))], [(gw, .inr (10, [.int gwr, .int gwk, .int gwc, .int gwg, .int gws, .ref gwa, .ref gwb]))], [(gwa, .inl (cy 3, gwan, .inr (.inr (.inr (.inr (yad gwad))))))], xg_rows gwad gwan (cy 1) gwak gwaG, [(gwb, .inl (cy 3, gwbn, .inr (.inr (.inr (.inr (yad gwbd))))))], xg_rows gwbd gwbn (cy 1) gwbk gwbG, [(gK, .inl (cy 4, 5, .inr (.inr (.inr (.inr (yad gKd))))))], xg_rows gKd 5 (cy 2) 5 gKG, [(gS, .inl (cy 3, 5, .inr (.inr (.inr (.inr (yad gSd))))))], xg_rows gSd 5 (cy 1) 5 gSG, [(q_5, .inl (cy 1, x_1.2, .inl x_1.1))]] (0 + 30) (0 + 60) [(0, .ref g)] 21 [.int r_7, .ref g] := by
    refine xr_iconst (n := 22) (v := 1) C dX9_start__21 rfl rfl ?_
    obtain ⟨x_8, hx_8, hR⟩ := yf_b hR
    refine xr_callV (n := 25) (As := [.int r_7, .int 1]) (rest := []) C (kX9_start_i l D cy (g := g) (gth := gth) (gw := gw) (gB := gB) (gK := gK) (gU := gU) (gS := gS) (gbe := gbe) (gwo := gwo) (gta := gta) (glr := glr) (glc := glc) (gti := gti) (ggo := ggo) (gR := gR) (gch := gch) (gD := gD) (i1 := r_7) (i2 := 1) hx_8) mX9_start u_1301 u_1303 u_29 0 rfl rfl 11 [0] [1, 2, 3, 4, 5, 6, 7, 8, 9, 10] rfl (by decide +kernel) rfl rfl rfl rfl (Nat.le_of_ble_eq_true rfl) (Nat.le_of_ble_eq_true rfl) (Nat.le_of_ble_eq_true rfl) (Nat.le_of_ble_eq_true rfl) (Nat.le_of_ble_eq_true rfl) dX9_start__22 rfl (fun v_9 u_10 hp_11 => ?_)
    obtain ⟨rfl, rfl⟩ := hp_11
    refine xr_perm C 11 [0, 1, 2, 3, 4, 5, 6, 7, 8, 9, 10] [] [[(g, .inr (11, [.int x_8.2, .ref gw, .ref gB, .ref gK, .ref gU, .ref gS, .int gbe, .int gwo, .long gta, .null, .int glr, .int glc, .int gti, .int ggo, .ref gR, .int gch, .ref gD]))], [(gw, .inr (10, [.int gwr, .int gwk, .int gwc, .int gwg, .int gws, .ref gwa, .ref gwb]))], [(gwa, .inl (cy 3, gwan, .inr (.inr (.inr (.inr (yad gwad))))))], xg_rows gwad gwan (cy 1) gwak gwaG, [(gwb, .inl (cy 3, gwbn, .inr (.inr (.inr (.inr (yad gwbd))))))], xg_rows gwbd gwbn (cy 1) gwbk gwbG, [(gK, .inl (cy 4, 5, .inr (.inr (.inr (.inr (yad gKd))))))], xg_rows gKd 5 (cy 2) 5 gKG, [(gS, .inl (cy 3, 5, .inr (.inr (.inr (.inr (yad gSd))))))], xg_rows gSd 5 (cy 1) 5 gSG, [(q_5, .inl (cy 1, x_1.2, .inl x_1.1))]] rfl (by decide +kernel) rfl ?_
    refine xr_st (st' := [.int x_8.1]) rfl ?_
    refine xr_if_eq (tgt := 30) (n := 28) C dX9_start__25 rfl rfl (fun c_12 => ?_) (fun c_12 => ?_)
    · replace hR := yf_t c_12 hR
      refine xr_aload_n (n := 31) (j := 0) C dX9_start__30 rfl rfl ?_
      obtain ⟨x_13, hx_13, hR⟩ := yf_b hR
      refine xr_callV (n := 34) (As := []) (rest := []) C (kX9_bestLayout_i l D cy (g := g) (gth := x_8.2) (gw := gw) (gB := gB) (gK := gK) (gU := gU) (gS := gS) (gbe := gbe) (gwo := gwo) (gta := gta) (glr := glr) (glc := glc) (gti := gti) (ggo := ggo) (gR := gR) (gch := gch) (gD := gD) (gwr := gwr) (gwk := gwk) (gwc := gwc) (gwg := gwg) (gws := gws) (gwa := gwa) (gwb := gwb) (gwad := gwad) (gwan := gwan) (gwak := gwak) (gwaG := gwaG) (gwbd := gwbd) (gwbn := gwbn) (gwbk := gwbk) (gwbG := gwbG) (gKd := gKd) (gKG := gKG) hx_13) mX9_bestLayout u_1355 u_1357 u_32 0 rfl rfl 11 [0, 1, 2, 3, 4, 5, 6, 7] [8, 9, 10] rfl (by decide +kernel) rfl rfl rfl rfl (Nat.le_of_ble_eq_true rfl) (Nat.le_of_ble_eq_true rfl) (Nat.le_of_ble_eq_true rfl) (Nat.le_of_ble_eq_true rfl) (Nat.le_of_ble_eq_true rfl) dX9_start__31 rfl (fun v_14 u_15 hp_16 => ?_)
      obtain ⟨q_17, rfl, rfl⟩ := hp_16
      refine xr_perm C 12 [0, 1, 2, 3, 4, 5, 6, 7, 9, 10, 11, 8] [] [[(g, .inr (11, [.int x_8.2, .ref gw, .ref gB, .ref gK, .ref gU, .ref gS, .int gbe, .int gwo, .long gta, .null, .int glr, .int glc, .int gti, .int ggo, .ref gR, .int gch, .ref gD]))], [(gw, .inr (10, [.int gwr, .int gwk, .int gwc, .int gwg, .int gws, .ref gwa, .ref gwb]))], [(gwa, .inl (cy 3, gwan, .inr (.inr (.inr (.inr (yad gwad))))))], xg_rows gwad gwan (cy 1) gwak gwaG, [(gwb, .inl (cy 3, gwbn, .inr (.inr (.inr (.inr (yad gwbd))))))], xg_rows gwbd gwbn (cy 1) gwbk gwbG, [(gK, .inl (cy 4, 5, .inr (.inr (.inr (.inr (yad gKd))))))], xg_rows gKd 5 (cy 2) 5 gKG, [(gS, .inl (cy 3, 5, .inr (.inr (.inr (.inr (yad gSd))))))], xg_rows gSd 5 (cy 1) 5 gSG, [(q_5, .inl (cy 1, x_1.2, .inl x_1.1))], [(q_17, .inl (cy 1, x_13.2, .inl x_13.1))]] rfl (by decide +kernel) rfl ?_
      refine xr_st (st' := [.ref q_17]) rfl ?_
      refine xr_astore_n (n := 35) C [(1, .ref q_17), (0, .ref g)] dX9_start__34 (by decide) rfl rfl ?_
      refine xr_aload_n (n := 36) (j := 1) C dX9_start__35 rfl rfl ?_
      refine xr_aload_n (n := 37) (j := 1) C dX9_start__36 rfl rfl ?_
      refine xr_get (n := 40) C 0 rfl rfl 1 (by decide) in_X9 u_1238 rfl (v := .ref gw) rfl dX9_start__37 rfl ?_
      obtain ⟨x_18, hx_18, hR⟩ := yf_b hR
      refine xr_callV (n := 43) (As := []) (rest := [.ref g]) C (kX8_copy l D cy (w := gw) (wr := gwr) (wk := gwk) (wc := gwc) (wg := gwg) (ws := gws) (wa := gwa) (wb := gwb) (wad := gwad) (wan := gwan) (wak := gwak) (waG := gwaG) (wbd := gwbd) (wbn := gwbn) (wbk := gwbk) (wbG := gwbG) hx_18) mX8_copy u_1399 u_1400 u_1401 1 rfl rfl 12 [1, 2, 3, 4, 5] [0, 6, 7, 8, 9, 10, 11] rfl (by decide +kernel) rfl rfl rfl rfl (Nat.le_of_ble_eq_true rfl) (Nat.le_of_ble_eq_true rfl) (Nat.le_of_ble_eq_true rfl) (Nat.le_of_ble_eq_true rfl) (Nat.le_of_ble_eq_true rfl) dX9_start__40 rfl (fun v_19 u_20 hp_21 => ?_)
      obtain ⟨q_22, q_23, q_24, q_25, q_26, rfl, rfl⟩ := hp_21
      refine xr_perm C 17 [10, 0, 1, 2, 3, 4, 11, 12, 13, 14, 15, 16, 5, 6, 7, 8, 9] [] [[(g, .inr (11, [.int x_8.2, .ref gw, .ref gB, .ref gK, .ref gU, .ref gS, .int gbe, .int gwo, .long gta, .null, .int glr, .int glc, .int gti, .int ggo, .ref gR, .int gch, .ref gD]))], [(gw, .inr (10, [.int gwr, .int gwk, .int gwc, .int gwg, .int gws, .ref gwa, .ref gwb]))], [(gwa, .inl (cy 3, gwan, .inr (.inr (.inr (.inr (yad gwad))))))], xg_rows gwad gwan (cy 1) gwak gwaG, [(gwb, .inl (cy 3, gwbn, .inr (.inr (.inr (.inr (yad gwbd))))))], xg_rows gwbd gwbn (cy 1) gwbk gwbG, [(gK, .inl (cy 4, 5, .inr (.inr (.inr (.inr (yad gKd))))))], xg_rows gKd 5 (cy 2) 5 gKG, [(gS, .inl (cy 3, 5, .inr (.inr (.inr (.inr (yad gSd))))))], xg_rows gSd 5 (cy 1) 5 gSG, [(q_5, .inl (cy 1, x_1.2, .inl x_1.1))], [(q_17, .inl (cy 1, x_13.2, .inl x_13.1))], [(q_22, .inr (10, [.int x_18.1, .int x_18.2.1, .int x_18.2.2.1, .int x_18.2.2.2.1, .int x_18.2.2.2.2.1, .ref q_23, .ref q_24]))], [(q_23, .inl (cy 3, x_18.2.2.2.2.2.1, .inr (.inr (.inr (.inr (yad q_25))))))], xg_rows q_25 x_18.2.2.2.2.2.1 (cy 1) x_18.2.2.2.2.2.2.1 x_18.2.2.2.2.2.2.2.1, [(q_24, .inl (cy 3, x_18.2.2.2.2.2.2.2.2.1, .inr (.inr (.inr (.inr (yad q_26))))))], xg_rows q_26 x_18.2.2.2.2.2.2.2.2.1 (cy 1) x_18.2.2.2.2.2.2.2.2.2.1 x_18.2.2.2.2.2.2.2.2.2.2] rfl (by decide +kernel) rfl ?_
      refine xr_st (st' := [.ref q_22, .ref g]) rfl ?_
      refine xr_put (n := 46) C 0 rfl rfl 9 (by decide) in_X9 tyX9 tyX9_ok nmX9 u_1246 rfl rfl rfl rfl (Nat.le_of_ble_eq_true rfl) [[(g, .inr (11, [.int x_8.2, .ref gw, .ref gB, .ref gK, .ref gU, .ref gS, .int gbe, .int gwo, .long gta, .ref q_22, .int glr, .int glc, .int gti, .int ggo, .ref gR, .int gch, .ref gD]))], [(gw, .inr (10, [.int gwr, .int gwk, .int gwc, .int gwg, .int gws, .ref gwa, .ref gwb]))], [(gwa, .inl (cy 3, gwan, .inr (.inr (.inr (.inr (yad gwad))))))], xg_rows gwad gwan (cy 1) gwak gwaG, [(gwb, .inl (cy 3, gwbn, .inr (.inr (.inr (.inr (yad gwbd))))))], xg_rows gwbd gwbn (cy 1) gwbk gwbG, [(gK, .inl (cy 4, 5, .inr (.inr (.inr (.inr (yad gKd))))))], xg_rows gKd 5 (cy 2) 5 gKG, [(gS, .inl (cy 3, 5, .inr (.inr (.inr (.inr (yad gSd))))))], xg_rows gSd 5 (cy 1) 5 gSG, [(q_5, .inl (cy 1, x_1.2, .inl x_1.1))], [(q_17, .inl (cy 1, x_13.2, .inl x_13.1))], [(q_22, .inr (10, [.int x_18.1, .int x_18.2.1, .int x_18.2.2.1, .int x_18.2.2.2.1, .int x_18.2.2.2.2.1, .ref q_23, .ref q_24]))], [(q_23, .inl (cy 3, x_18.2.2.2.2.2.1, .inr (.inr (.inr (.inr (yad q_25))))))], xg_rows q_25 x_18.2.2.2.2.2.1 (cy 1) x_18.2.2.2.2.2.2.1 x_18.2.2.2.2.2.2.2.1, [(q_24, .inl (cy 3, x_18.2.2.2.2.2.2.2.2.1, .inr (.inr (.inr (.inr (yad q_26))))))], xg_rows q_26 x_18.2.2.2.2.2.2.2.2.1 (cy 1) x_18.2.2.2.2.2.2.2.2.2.1 x_18.2.2.2.2.2.2.2.2.2.2] rfl rfl dX9_start__43 ?_
      refine xr_aload_n (n := 47) (j := 1) C dX9_start__46 rfl rfl ?_
      refine xr_aload_n (n := 48) (j := 0) C dX9_start__47 rfl rfl ?_
      refine xr_iconst (n := 49) (v := 0) C dX9_start__48 rfl rfl ?_
      obtain ⟨g_27, hR⟩ := yf_g hR
      refine xr_iald (n := 50) C 11 0 rfl rfl g_27 dX9_start__49 rfl ?_
      refine xr_put (n := 53) C 0 rfl rfl 10 (by decide) in_X9 tyX9 tyX9_ok nmX9 u_1247 rfl rfl rfl rfl (Nat.le_of_ble_eq_true rfl) [[(g, .inr (11, [.int x_8.2, .ref gw, .ref gB, .ref gK, .ref gU, .ref gS, .int gbe, .int gwo, .long gta, .ref q_22, .int (x_13.1 (0 : Int32).toNatClampNeg), .int glc, .int gti, .int ggo, .ref gR, .int gch, .ref gD]))], [(gw, .inr (10, [.int gwr, .int gwk, .int gwc, .int gwg, .int gws, .ref gwa, .ref gwb]))], [(gwa, .inl (cy 3, gwan, .inr (.inr (.inr (.inr (yad gwad))))))], xg_rows gwad gwan (cy 1) gwak gwaG, [(gwb, .inl (cy 3, gwbn, .inr (.inr (.inr (.inr (yad gwbd))))))], xg_rows gwbd gwbn (cy 1) gwbk gwbG, [(gK, .inl (cy 4, 5, .inr (.inr (.inr (.inr (yad gKd))))))], xg_rows gKd 5 (cy 2) 5 gKG, [(gS, .inl (cy 3, 5, .inr (.inr (.inr (.inr (yad gSd))))))], xg_rows gSd 5 (cy 1) 5 gSG, [(q_5, .inl (cy 1, x_1.2, .inl x_1.1))], [(q_17, .inl (cy 1, x_13.2, .inl x_13.1))], [(q_22, .inr (10, [.int x_18.1, .int x_18.2.1, .int x_18.2.2.1, .int x_18.2.2.2.1, .int x_18.2.2.2.2.1, .ref q_23, .ref q_24]))], [(q_23, .inl (cy 3, x_18.2.2.2.2.2.1, .inr (.inr (.inr (.inr (yad q_25))))))], xg_rows q_25 x_18.2.2.2.2.2.1 (cy 1) x_18.2.2.2.2.2.2.1 x_18.2.2.2.2.2.2.2.1, [(q_24, .inl (cy 3, x_18.2.2.2.2.2.2.2.2.1, .inr (.inr (.inr (.inr (yad q_26))))))], xg_rows q_26 x_18.2.2.2.2.2.2.2.2.1 (cy 1) x_18.2.2.2.2.2.2.2.2.2.1 x_18.2.2.2.2.2.2.2.2.2.2] rfl rfl dX9_start__50 ?_
      refine xr_aload_n (n := 54) (j := 1) C dX9_start__53 rfl rfl ?_
      refine xr_aload_n (n := 55) (j := 0) C dX9_start__54 rfl rfl ?_
      refine xr_iconst (n := 56) (v := 1) C dX9_start__55 rfl rfl ?_
      obtain ⟨g_28, hR⟩ := yf_g hR
      refine xr_iald (n := 57) C 11 0 rfl rfl g_28 dX9_start__56 rfl ?_
      refine xr_put (n := 60) C 0 rfl rfl 11 (by decide) in_X9 tyX9 tyX9_ok nmX9 u_1248 rfl rfl rfl rfl (Nat.le_of_ble_eq_true rfl) [[(g, .inr (11, [.int x_8.2, .ref gw, .ref gB, .ref gK, .ref gU, .ref gS, .int gbe, .int gwo, .long gta, .ref q_22, .int (x_13.1 (0 : Int32).toNatClampNeg), .int (x_13.1 (1 : Int32).toNatClampNeg), .int gti, .int ggo, .ref gR, .int gch, .ref gD]))], [(gw, .inr (10, [.int gwr, .int gwk, .int gwc, .int gwg, .int gws, .ref gwa, .ref gwb]))], [(gwa, .inl (cy 3, gwan, .inr (.inr (.inr (.inr (yad gwad))))))], xg_rows gwad gwan (cy 1) gwak gwaG, [(gwb, .inl (cy 3, gwbn, .inr (.inr (.inr (.inr (yad gwbd))))))], xg_rows gwbd gwbn (cy 1) gwbk gwbG, [(gK, .inl (cy 4, 5, .inr (.inr (.inr (.inr (yad gKd))))))], xg_rows gKd 5 (cy 2) 5 gKG, [(gS, .inl (cy 3, 5, .inr (.inr (.inr (.inr (yad gSd))))))], xg_rows gSd 5 (cy 1) 5 gSG, [(q_5, .inl (cy 1, x_1.2, .inl x_1.1))], [(q_17, .inl (cy 1, x_13.2, .inl x_13.1))], [(q_22, .inr (10, [.int x_18.1, .int x_18.2.1, .int x_18.2.2.1, .int x_18.2.2.2.1, .int x_18.2.2.2.2.1, .ref q_23, .ref q_24]))], [(q_23, .inl (cy 3, x_18.2.2.2.2.2.1, .inr (.inr (.inr (.inr (yad q_25))))))], xg_rows q_25 x_18.2.2.2.2.2.1 (cy 1) x_18.2.2.2.2.2.2.1 x_18.2.2.2.2.2.2.2.1, [(q_24, .inl (cy 3, x_18.2.2.2.2.2.2.2.2.1, .inr (.inr (.inr (.inr (yad q_26))))))], xg_rows q_26 x_18.2.2.2.2.2.2.2.2.1 (cy 1) x_18.2.2.2.2.2.2.2.2.2.1 x_18.2.2.2.2.2.2.2.2.2.2] rfl rfl dX9_start__57 ?_
      refine xr_aload_n (n := 61) (j := 1) C dX9_start__60 rfl rfl ?_
      refine xr_iconst (n := 62) (v := 0) C dX9_start__61 rfl rfl ?_
      refine xr_put (n := 65) C 0 rfl rfl 12 (by decide) in_X9 tyX9 tyX9_ok nmX9 u_1249 rfl rfl rfl rfl (Nat.le_of_ble_eq_true rfl) [[(g, .inr (11, [.int x_8.2, .ref gw, .ref gB, .ref gK, .ref gU, .ref gS, .int gbe, .int gwo, .long gta, .ref q_22, .int (x_13.1 (0 : Int32).toNatClampNeg), .int (x_13.1 (1 : Int32).toNatClampNeg), .int 0, .int ggo, .ref gR, .int gch, .ref gD]))], [(gw, .inr (10, [.int gwr, .int gwk, .int gwc, .int gwg, .int gws, .ref gwa, .ref gwb]))], [(gwa, .inl (cy 3, gwan, .inr (.inr (.inr (.inr (yad gwad))))))], xg_rows gwad gwan (cy 1) gwak gwaG, [(gwb, .inl (cy 3, gwbn, .inr (.inr (.inr (.inr (yad gwbd))))))], xg_rows gwbd gwbn (cy 1) gwbk gwbG, [(gK, .inl (cy 4, 5, .inr (.inr (.inr (.inr (yad gKd))))))], xg_rows gKd 5 (cy 2) 5 gKG, [(gS, .inl (cy 3, 5, .inr (.inr (.inr (.inr (yad gSd))))))], xg_rows gSd 5 (cy 1) 5 gSG, [(q_5, .inl (cy 1, x_1.2, .inl x_1.1))], [(q_17, .inl (cy 1, x_13.2, .inl x_13.1))], [(q_22, .inr (10, [.int x_18.1, .int x_18.2.1, .int x_18.2.2.1, .int x_18.2.2.2.1, .int x_18.2.2.2.2.1, .ref q_23, .ref q_24]))], [(q_23, .inl (cy 3, x_18.2.2.2.2.2.1, .inr (.inr (.inr (.inr (yad q_25))))))], xg_rows q_25 x_18.2.2.2.2.2.1 (cy 1) x_18.2.2.2.2.2.2.1 x_18.2.2.2.2.2.2.2.1, [(q_24, .inl (cy 3, x_18.2.2.2.2.2.2.2.2.1, .inr (.inr (.inr (.inr (yad q_26))))))], xg_rows q_26 x_18.2.2.2.2.2.2.2.2.1 (cy 1) x_18.2.2.2.2.2.2.2.2.2.1 x_18.2.2.2.2.2.2.2.2.2.2] rfl rfl dX9_start__62 ?_
      refine xr_aload_n (n := 66) (j := 1) C dX9_start__65 rfl rfl ?_
      obtain ⟨x_29, hx_29, hR⟩ := yf_b hR
      refine xr_callV (n := 69) (As := []) (rest := []) C (kX9_begin l D cy (g := g) (gth := x_8.2) (gw := gw) (gB := gB) (gK := gK) (gU := gU) (gS := gS) (gbe := gbe) (gwo := gwo) (gta := gta) (gn := q_22) (glr := x_13.1 (0 : Int32).toNatClampNeg) (glc := x_13.1 (1 : Int32).toNatClampNeg) (gti := 0) (ggo := ggo) (gR := gR) (gch := gch) (gD := gD) (gnr := x_18.1) (gnk := x_18.2.1) (gnc := x_18.2.2.1) (gng := x_18.2.2.2.1) (gns := x_18.2.2.2.2.1) (gna := q_23) (gnb := q_24) (gSd := gSd) (gSG := gSG) hx_29) mX9_begin u_1410 u_1412 u_34 0 rfl rfl 17 [0, 12, 8, 9] [1, 2, 3, 4, 5, 6, 7, 10, 11, 13, 14, 15, 16] rfl (by decide +kernel) rfl rfl rfl rfl (Nat.le_of_ble_eq_true rfl) (Nat.le_of_ble_eq_true rfl) (Nat.le_of_ble_eq_true rfl) (Nat.le_of_ble_eq_true rfl) (Nat.le_of_ble_eq_true rfl) dX9_start__66 rfl (fun v_30 u_31 hp_32 => ?_)
      obtain ⟨rfl, rfl⟩ := hp_32
      refine xr_perm C 17 [0, 4, 5, 6, 7, 8, 9, 10, 2, 3, 11, 12, 1, 13, 14, 15, 16] [] [[(g, .inr (11, [.int x_8.2, .ref gw, .ref gB, .ref gK, .ref gU, .ref gS, .int gbe, .int gwo, .long gta, .ref q_22, .int (x_13.1 (0 : Int32).toNatClampNeg), .int (x_13.1 (1 : Int32).toNatClampNeg), .int 0, .int x_29.1, .ref gR, .int gch, .ref gD]))], [(gw, .inr (10, [.int gwr, .int gwk, .int gwc, .int gwg, .int gws, .ref gwa, .ref gwb]))], [(gwa, .inl (cy 3, gwan, .inr (.inr (.inr (.inr (yad gwad))))))], xg_rows gwad gwan (cy 1) gwak gwaG, [(gwb, .inl (cy 3, gwbn, .inr (.inr (.inr (.inr (yad gwbd))))))], xg_rows gwbd gwbn (cy 1) gwbk gwbG, [(gK, .inl (cy 4, 5, .inr (.inr (.inr (.inr (yad gKd))))))], xg_rows gKd 5 (cy 2) 5 gKG, [(gS, .inl (cy 3, 5, .inr (.inr (.inr (.inr (yad gSd))))))], xg_rows gSd 5 (cy 1) 5 x_29.2, [(q_5, .inl (cy 1, x_1.2, .inl x_1.1))], [(q_17, .inl (cy 1, x_13.2, .inl x_13.1))], [(q_22, .inr (10, [.int x_18.1, .int x_18.2.1, .int x_18.2.2.1, .int x_18.2.2.2.1, .int x_18.2.2.2.2.1, .ref q_23, .ref q_24]))], [(q_23, .inl (cy 3, x_18.2.2.2.2.2.1, .inr (.inr (.inr (.inr (yad q_25))))))], xg_rows q_25 x_18.2.2.2.2.2.1 (cy 1) x_18.2.2.2.2.2.2.1 x_18.2.2.2.2.2.2.2.1, [(q_24, .inl (cy 3, x_18.2.2.2.2.2.2.2.2.1, .inr (.inr (.inr (.inr (yad q_26))))))], xg_rows q_26 x_18.2.2.2.2.2.2.2.2.1 (cy 1) x_18.2.2.2.2.2.2.2.2.2.1 x_18.2.2.2.2.2.2.2.2.2.2] rfl (by decide +kernel) rfl ?_
      refine xr_aload_n (n := 70) (j := 1) C dX9_start__69 rfl rfl ?_
      refine xr_dup (n := 71) C dX9_start__70 rfl rfl ?_
      refine xr_get (n := 74) C 0 rfl rfl 7 (by decide) in_X9 u_1244 rfl (v := .int gwo) rfl dX9_start__71 rfl ?_
      refine xr_iconst (n := 75) (v := 1) C dX9_start__74 rfl rfl ?_
      refine xr_iadd (n := 76) C dX9_start__75 rfl ?_
      refine xr_put (n := 79) C 0 rfl rfl 7 (by decide) in_X9 tyX9 tyX9_ok nmX9 u_1244 rfl rfl rfl rfl (Nat.le_of_ble_eq_true rfl) [[(g, .inr (11, [.int x_8.2, .ref gw, .ref gB, .ref gK, .ref gU, .ref gS, .int gbe, .int (gwo + 1), .long gta, .ref q_22, .int (x_13.1 (0 : Int32).toNatClampNeg), .int (x_13.1 (1 : Int32).toNatClampNeg), .int 0, .int x_29.1, .ref gR, .int gch, .ref gD]))], [(gw, .inr (10, [.int gwr, .int gwk, .int gwc, .int gwg, .int gws, .ref gwa, .ref gwb]))], [(gwa, .inl (cy 3, gwan, .inr (.inr (.inr (.inr (yad gwad))))))], xg_rows gwad gwan (cy 1) gwak gwaG, [(gwb, .inl (cy 3, gwbn, .inr (.inr (.inr (.inr (yad gwbd))))))], xg_rows gwbd gwbn (cy 1) gwbk gwbG, [(gK, .inl (cy 4, 5, .inr (.inr (.inr (.inr (yad gKd))))))], xg_rows gKd 5 (cy 2) 5 gKG, [(gS, .inl (cy 3, 5, .inr (.inr (.inr (.inr (yad gSd))))))], xg_rows gSd 5 (cy 1) 5 x_29.2, [(q_5, .inl (cy 1, x_1.2, .inl x_1.1))], [(q_17, .inl (cy 1, x_13.2, .inl x_13.1))], [(q_22, .inr (10, [.int x_18.1, .int x_18.2.1, .int x_18.2.2.1, .int x_18.2.2.2.1, .int x_18.2.2.2.2.1, .ref q_23, .ref q_24]))], [(q_23, .inl (cy 3, x_18.2.2.2.2.2.1, .inr (.inr (.inr (.inr (yad q_25))))))], xg_rows q_25 x_18.2.2.2.2.2.1 (cy 1) x_18.2.2.2.2.2.2.1 x_18.2.2.2.2.2.2.2.1, [(q_24, .inl (cy 3, x_18.2.2.2.2.2.2.2.2.1, .inr (.inr (.inr (.inr (yad q_26))))))], xg_rows q_26 x_18.2.2.2.2.2.2.2.2.1 (cy 1) x_18.2.2.2.2.2.2.2.2.2.1 x_18.2.2.2.2.2.2.2.2.2.2] rfl rfl dX9_start__76 ?_
      refine xr_aload_n (n := 80) (j := 1) C dX9_start__79 rfl rfl ?_
      refine xr_iconst (n := 81) (v := 0) C dX9_start__80 rfl rfl ?_
      refine xr_iconst (n := 82) (v := 0) C dX9_start__81 rfl rfl ?_
      refine xr_mnaI (n := 86) (N' := 0) (K' := 0) (cb := 1) (sb := 0) C u_1231 (by decide) u_108 (by decide) (by decide) (by decide) (by decide) (by decide) (by decide) (by decide) (by decide) (Nat.le_of_ble_eq_true rfl) (Nat.le_of_ble_eq_true rfl) dX9_start__82 rfl (fun q_33 ad_34 => ?_)
      refine xr_eq (bs' := [[(g, .inr (11, [.int x_8.2, .ref gw, .ref gB, .ref gK, .ref gU, .ref gS, .int gbe, .int (gwo + 1), .long gta, .ref q_22, .int (x_13.1 (0 : Int32).toNatClampNeg), .int (x_13.1 (1 : Int32).toNatClampNeg), .int 0, .int x_29.1, .ref gR, .int gch, .ref gD]))], [(gw, .inr (10, [.int gwr, .int gwk, .int gwc, .int gwg, .int gws, .ref gwa, .ref gwb]))], [(gwa, .inl (cy 3, gwan, .inr (.inr (.inr (.inr (yad gwad))))))], xg_rows gwad gwan (cy 1) gwak gwaG, [(gwb, .inl (cy 3, gwbn, .inr (.inr (.inr (.inr (yad gwbd))))))], xg_rows gwbd gwbn (cy 1) gwbk gwbG, [(gK, .inl (cy 4, 5, .inr (.inr (.inr (.inr (yad gKd))))))], xg_rows gKd 5 (cy 2) 5 gKG, [(gS, .inl (cy 3, 5, .inr (.inr (.inr (.inr (yad gSd))))))], xg_rows gSd 5 (cy 1) 5 x_29.2, [(q_5, .inl (cy 1, x_1.2, .inl x_1.1))], [(q_17, .inl (cy 1, x_13.2, .inl x_13.1))], [(q_22, .inr (10, [.int x_18.1, .int x_18.2.1, .int x_18.2.2.1, .int x_18.2.2.2.1, .int x_18.2.2.2.2.1, .ref q_23, .ref q_24]))], [(q_23, .inl (cy 3, x_18.2.2.2.2.2.1, .inr (.inr (.inr (.inr (yad q_25))))))], xg_rows q_25 x_18.2.2.2.2.2.1 (cy 1) x_18.2.2.2.2.2.2.1 x_18.2.2.2.2.2.2.2.1, [(q_24, .inl (cy 3, x_18.2.2.2.2.2.2.2.2.1, .inr (.inr (.inr (.inr (yad q_26))))))], xg_rows q_26 x_18.2.2.2.2.2.2.2.2.1 (cy 1) x_18.2.2.2.2.2.2.2.2.2.1 x_18.2.2.2.2.2.2.2.2.2.2, [(q_33, .inl (cy 3, 0, .inr (.inr (.inr (.inr (yad ad_34))))))], xg_rows ad_34 0 (cy 1) 0 (fun _ _ => 0)]) rfl ?_
      refine xr_put (n := 89) C 0 rfl rfl 14 (by decide) in_X9 tyX9 tyX9_ok nmX9 u_1251 rfl rfl rfl rfl (Nat.le_of_ble_eq_true rfl) [[(g, .inr (11, [.int x_8.2, .ref gw, .ref gB, .ref gK, .ref gU, .ref gS, .int gbe, .int (gwo + 1), .long gta, .ref q_22, .int (x_13.1 (0 : Int32).toNatClampNeg), .int (x_13.1 (1 : Int32).toNatClampNeg), .int 0, .int x_29.1, .ref q_33, .int gch, .ref gD]))], [(gw, .inr (10, [.int gwr, .int gwk, .int gwc, .int gwg, .int gws, .ref gwa, .ref gwb]))], [(gwa, .inl (cy 3, gwan, .inr (.inr (.inr (.inr (yad gwad))))))], xg_rows gwad gwan (cy 1) gwak gwaG, [(gwb, .inl (cy 3, gwbn, .inr (.inr (.inr (.inr (yad gwbd))))))], xg_rows gwbd gwbn (cy 1) gwbk gwbG, [(gK, .inl (cy 4, 5, .inr (.inr (.inr (.inr (yad gKd))))))], xg_rows gKd 5 (cy 2) 5 gKG, [(gS, .inl (cy 3, 5, .inr (.inr (.inr (.inr (yad gSd))))))], xg_rows gSd 5 (cy 1) 5 x_29.2, [(q_5, .inl (cy 1, x_1.2, .inl x_1.1))], [(q_17, .inl (cy 1, x_13.2, .inl x_13.1))], [(q_22, .inr (10, [.int x_18.1, .int x_18.2.1, .int x_18.2.2.1, .int x_18.2.2.2.1, .int x_18.2.2.2.2.1, .ref q_23, .ref q_24]))], [(q_23, .inl (cy 3, x_18.2.2.2.2.2.1, .inr (.inr (.inr (.inr (yad q_25))))))], xg_rows q_25 x_18.2.2.2.2.2.1 (cy 1) x_18.2.2.2.2.2.2.1 x_18.2.2.2.2.2.2.2.1, [(q_24, .inl (cy 3, x_18.2.2.2.2.2.2.2.2.1, .inr (.inr (.inr (.inr (yad q_26))))))], xg_rows q_26 x_18.2.2.2.2.2.2.2.2.1 (cy 1) x_18.2.2.2.2.2.2.2.2.2.1 x_18.2.2.2.2.2.2.2.2.2.2, [(q_33, .inl (cy 3, 0, .inr (.inr (.inr (.inr (yad ad_34))))))], xg_rows ad_34 0 (cy 1) 0 (fun _ _ => 0)] rfl rfl dX9_start__86 ?_
      refine xr_aload_n (n := 90) (j := 1) C dX9_start__89 rfl rfl ?_
      obtain ⟨x_35, hx_35, hR⟩ := yf_b hR
      refine xr_callVp (n := 93) (As := []) (rest := []) C (kX9_rest_r l D cy (g := g) (gth := x_8.2) (gw := gw) (gB := gB) (gK := gK) (gU := gU) (gS := gS) (gbe := gbe) (gwo := gwo + 1) (gta := gta) (gn := q_22) (glr := x_13.1 (0 : Int32).toNatClampNeg) (glc := x_13.1 (1 : Int32).toNatClampNeg) (gti := 0) (ggo := x_29.1) (gR := q_33) (gch := gch) (gD := gD) (gnr := x_18.1) (gnk := x_18.2.1) (gnc := x_18.2.2.1) (gng := x_18.2.2.2.1) (gns := x_18.2.2.2.2.1) (gna := q_23) (gnb := q_24) (gnad := q_25) (gnan := x_18.2.2.2.2.2.1) (gnak := x_18.2.2.2.2.2.2.1) (gnaG := x_18.2.2.2.2.2.2.2.1) (gnbd := q_26) (gnbn := x_18.2.2.2.2.2.2.2.2.1) (gnbk := x_18.2.2.2.2.2.2.2.2.2.1) (gnbG := x_18.2.2.2.2.2.2.2.2.2.2) hx_35) mX9_left_ u_1418 u_1420 u_35 0 rfl rfl 19 [0, 12, 13, 14, 15, 16] [1, 2, 3, 4, 5, 6, 7, 8, 9, 10, 11, 17, 18] rfl (by decide +kernel) rfl rfl rfl rfl (Nat.le_of_ble_eq_true rfl) (Nat.le_of_ble_eq_true rfl) (Nat.le_of_ble_eq_true rfl) (Nat.le_of_ble_eq_true rfl) (Nat.le_of_ble_eq_true rfl) dX9_start__90 rfl (fun _ _ hp => hp.2) (fun v_36 hp_38 => ?_)
      obtain ⟨rfl, -⟩ := hp_38
      refine xr_st (st' := [.int x_35]) rfl ?_
      obtain rfl := Option.some.inj hR
      refine xr_perm C 19 [0, 1, 2, 3, 4, 5, 6, 7, 8, 9, 12, 13, 14, 15, 16, 17, 18] [10, 11] [[(g, .inr (11, [.int x_8.2, .ref gw, .ref gB, .ref gK, .ref gU, .ref gS, .int gbe, .int (gwo + 1), .long gta, .ref q_22, .int (x_13.1 (0 : Int32).toNatClampNeg), .int (x_13.1 (1 : Int32).toNatClampNeg), .int 0, .int x_29.1, .ref q_33, .int gch, .ref gD]))], [(gw, .inr (10, [.int gwr, .int gwk, .int gwc, .int gwg, .int gws, .ref gwa, .ref gwb]))], [(gwa, .inl (cy 3, gwan, .inr (.inr (.inr (.inr (yad gwad))))))], xg_rows gwad gwan (cy 1) gwak gwaG, [(gwb, .inl (cy 3, gwbn, .inr (.inr (.inr (.inr (yad gwbd))))))], xg_rows gwbd gwbn (cy 1) gwbk gwbG, [(gK, .inl (cy 4, 5, .inr (.inr (.inr (.inr (yad gKd))))))], xg_rows gKd 5 (cy 2) 5 gKG, [(gS, .inl (cy 3, 5, .inr (.inr (.inr (.inr (yad gSd))))))], xg_rows gSd 5 (cy 1) 5 x_29.2, [(q_22, .inr (10, [.int x_18.1, .int x_18.2.1, .int x_18.2.2.1, .int x_18.2.2.2.1, .int x_18.2.2.2.2.1, .ref q_23, .ref q_24]))], [(q_23, .inl (cy 3, x_18.2.2.2.2.2.1, .inr (.inr (.inr (.inr (yad q_25))))))], xg_rows q_25 x_18.2.2.2.2.2.1 (cy 1) x_18.2.2.2.2.2.2.1 x_18.2.2.2.2.2.2.2.1, [(q_24, .inl (cy 3, x_18.2.2.2.2.2.2.2.2.1, .inr (.inr (.inr (.inr (yad q_26))))))], xg_rows q_26 x_18.2.2.2.2.2.2.2.2.1 (cy 1) x_18.2.2.2.2.2.2.2.2.2.1 x_18.2.2.2.2.2.2.2.2.2.2, [(q_33, .inl (cy 3, 0, .inr (.inr (.inr (.inr (yad ad_34))))))], xg_rows ad_34 0 (cy 1) 0 (fun _ _ => 0)] rfl (by decide +kernel) rfl ?_
      exact ret x_35 (Or.inr ⟨_, rfl, q_22, q_33, q_23, q_24, q_25, q_26, ad_34, rfl, rfl⟩) (Nat.le_of_ble_eq_true rfl) (Nat.le_of_ble_eq_true rfl) dX9_start__93
    · replace hR := yf_f c_12 hR
      refine xr_iconst (n := 29) (v := 0) C dX9_start__28 rfl rfl ?_
      obtain rfl := Option.some.inj hR
      refine xr_perm C 11 [0, 1, 2, 3, 4, 5, 6, 7, 8, 9] [10] [[(g, .inr (11, [.int x_8.2, .ref gw, .ref gB, .ref gK, .ref gU, .ref gS, .int gbe, .int gwo, .long gta, .null, .int glr, .int glc, .int gti, .int ggo, .ref gR, .int gch, .ref gD]))], [(gw, .inr (10, [.int gwr, .int gwk, .int gwc, .int gwg, .int gws, .ref gwa, .ref gwb]))], [(gwa, .inl (cy 3, gwan, .inr (.inr (.inr (.inr (yad gwad))))))], xg_rows gwad gwan (cy 1) gwak gwaG, [(gwb, .inl (cy 3, gwbn, .inr (.inr (.inr (.inr (yad gwbd))))))], xg_rows gwbd gwbn (cy 1) gwbk gwbG, [(gK, .inl (cy 4, 5, .inr (.inr (.inr (.inr (yad gKd))))))], xg_rows gKd 5 (cy 2) 5 gKG, [(gS, .inl (cy 3, 5, .inr (.inr (.inr (.inr (yad gSd))))))], xg_rows gSd 5 (cy 1) 5 gSG] rfl (by decide +kernel) rfl ?_
      exact ret 0 (Or.inl ⟨_, rfl, rfl, rfl⟩) (Nat.le_of_ble_eq_true rfl) (Nat.le_of_ble_eq_true rfl) dX9_start__29
  refine xr_if_ne (tgt := 20) (n := 16) C dX9_start__13 rfl rfl (fun c_39 => ?_) (fun c_39 => ?_)
  · replace hE_7 := yf_f c_39 hE_7
    refine xr_iconst (n := 21) (v := 0) C dX9_start__20 rfl rfl ?_
    have e_40 := Option.some.inj hE_7
    subst e_40
    exact J_7
  · replace hE_7 := yf_t c_39 hE_7
    refine xr_iconst (n := 17) (v := 1) C dX9_start__16 rfl rfl ?_
    refine xr_goto (tgt := 21) C dX9_start__17 rfl ?_
    have e_41 := Option.some.inj hE_7
    subst e_41
    exact J_7
def fX9_begin_r  : Option (Int32 × Int32) := ((fX9_start11_r).bind fun x_1 => some (0, 1))
set_option maxHeartbeats 4000000 in
set_option maxRecDepth 100000 in
theorem kX9_begin_r (l : Launch) (D : va_G) (cy : Nat → ClassId) (g : Nat) (gth : Int32) (gw : Nat) (gB : Nat) (gK : Nat) (gU : Nat) (gS : Nat) (gbe : Int32) (gwo : Int32) (gta : Int64) (gn : Nat) (glr : Int32) (glc : Int32) (gti : Int32) (ggo : Int32) (gR : Nat) (gch : Int32) (gD : Nat) {res : Int32 × Int32} (hR : fX9_begin_r  = some res) : YM l D cy yX9_start_ hX9_start_ 6 100 500 [.ref g] [[(g, .inr (11, [.int gth, .ref gw, .ref gB, .ref gK, .ref gU, .ref gS, .int gbe, .int gwo, .long gta, .ref gn, .int glr, .int glc, .int gti, .int ggo, .ref gR, .int gch, .ref gD]))]] (fun v u => v = some (.int res.1) ∧ u = [[(g, .inr (11, [.int res.2, .ref gw, .ref gB, .ref gK, .ref gU, .ref gS, .int gbe, .int gwo, .long gta, .ref gn, .int glr, .int glc, .int gti, .int ggo, .ref gR, .int gch, .ref gD]))]]) := by
  unfold fX9_begin_r at hR
  refine YM.ofI (cc := cX9_start_) (maxL := 2) (ret := (some .int)) (by decide +kernel) rfl (Nat.le_of_ble_eq_true rfl) [(0, .ref g)] rfl rfl (fun p e s m args below meth c A H0 Q C hnm ret => ?_)
  refine xr_aload_n (n := 1) (j := 0) C dX9_start__0 rfl rfl ?_
  refine xr_aload_n (n := 2) (j := 0) C dX9_start__1 rfl rfl ?_
  refine xr_get (n := 5) C 0 rfl rfl 9 (by decide) in_X9 u_1246 rfl (v := .ref gn) rfl dX9_start__2 rfl ?_
  refine xr_ifnonnull (tgt := 16) C dX9_start__5 rfl ?_
  refine xr_iconst (n := 17) (v := 1) C dX9_start__16 rfl rfl ?_
  refine xr_goto (tgt := 21) C dX9_start__17 rfl ?_
  refine xr_iconst (n := 22) (v := 1) C dX9_start__21 rfl rfl ?_
  obtain ⟨x_1, hx_1, hR⟩ := yf_b hR
  obtain rfl := Option.some.inj (show some ((1) : Int32) = some x_1 from hx_1)
  refine xr_callV (n := 25) (As := [.int 1, .int 1]) (rest := []) C (kX9_start11_r l D cy (g := g) (gth := gth) (gw := gw) (gB := gB) (gK := gK) (gU := gU) (gS := gS) (gbe := gbe) (gwo := gwo) (gta := gta) (gn := gn) (glr := glr) (glc := glc) (gti := gti) (ggo := ggo) (gR := gR) (gch := gch) (gD := gD) hx_1) mX9_start u_1301 u_1303 u_29 0 rfl rfl 1 [0] [] rfl (by decide +kernel) rfl rfl rfl rfl (Nat.le_of_ble_eq_true rfl) (Nat.le_of_ble_eq_true rfl) (Nat.le_of_ble_eq_true rfl) (Nat.le_of_ble_eq_true rfl) (Nat.le_of_ble_eq_true rfl) dX9_start__22 rfl (fun v_2 u_3 hp_4 => ?_)
  obtain ⟨rfl, rfl⟩ := hp_4
  refine xr_perm C 1 [0] [] [[(g, .inr (11, [.int 1, .ref gw, .ref gB, .ref gK, .ref gU, .ref gS, .int gbe, .int gwo, .long gta, .ref gn, .int glr, .int glc, .int gti, .int ggo, .ref gR, .int gch, .ref gD]))]] rfl (by decide +kernel) rfl ?_
  refine xr_st (st' := [.int 1]) rfl ?_
  refine xr_if_eq (tgt := 30) (n := 28) C dX9_start__25 rfl rfl (fun c_5 => absurd c_5 (by decide)) (fun _ => ?_)
  refine xr_iconst (n := 29) (v := 0) C dX9_start__28 rfl rfl ?_
  obtain rfl := Option.some.inj hR
  exact ret 0 ⟨rfl, rfl⟩ (Nat.le_of_ble_eq_true rfl) (Nat.le_of_ble_eq_true rfl) dX9_start__29
