theorem u_1528 : Cond.methodLink RX9 244 yX9_placeIn ∈ yU := yu_tables_1_7 32 (by decide +kernel) (by decide +kernel)
theorem u_1529 : Cond.static yX9_placeIn ∈ yU := yu_tables_1_7 33 (by decide +kernel) (by decide +kernel)
theorem u_1241 : Cond.fieldLink RX9 32 "PulsemeshModel" "uses" "[[I" ∈ yU := yu_tables_1_5 225 (by decide +kernel) (by decide +kernel)
theorem u_1524 : Cond.methodLink RX9 247 yX9_does ∈ yU := yu_tables_1_7 28 (by decide +kernel) (by decide +kernel)
theorem u_1526 : Cond.instanceMethod yX9_does ∈ yU := yu_tables_1_7 30 (by decide +kernel) (by decide +kernel)
theorem u_51 : Cond.selects RX9 yX9_does yX9_does ∈ yU := yu 51 (by decide +kernel) (by decide +kernel)
theorem u_1523 : Cond.code yX9_cellTold cX9_cellTold 4 (some .int) ∈ yU := yu_tables_1_7 27 (by decide +kernel) (by decide +kernel)
theorem u_1451 : Cond.methodLink RX9 196 yX9_stepTaken ∈ yU := yu_tables_1_6 195 (by decide +kernel) (by decide +kernel)
theorem u_1453 : Cond.instanceMethod yX9_stepTaken ∈ yU := yu_tables_1_6 197 (by decide +kernel) (by decide +kernel)
theorem u_42 : Cond.selects RX9 yX9_stepTaken yX9_stepTaken ∈ yU := yu 42 (by decide +kernel) (by decide +kernel)
theorem u_1520 : Cond.methodLink RX9 250 yX9_cellTold ∈ yU := yu_tables_1_7 24 (by decide +kernel) (by decide +kernel)
theorem u_1522 : Cond.instanceMethod yX9_cellTold ∈ yU := yu_tables_1_7 26 (by decide +kernel) (by decide +kernel)
theorem u_50 : Cond.selects RX9 yX9_cellTold yX9_cellTold ∈ yU := yu 50 (by decide +kernel) (by decide +kernel)
theorem u_1519 : Cond.code yX9_ofCell cX9_ofCell 4 (some .int) ∈ yU := yu_tables_1_7 23 (by decide +kernel) (by decide +kernel)
theorem u_1534 : Cond.code yX9_result cX9_result 3 (some .int) ∈ yU := yu_tables_1_7 38 (by decide +kernel) (by decide +kernel)
def fX9_does_r (glr : Int32) (glc : Int32) (gti : Int32) (gnr : Int32) (gnc : Int32) (gns : Int32) (i1 : Int32) (i2 : Int32) : Option (Int32) := ((fX9_has glr i1).bind fun x_1 => (if x_1 = 0 then some 0 else ((fX9_has glc i2).bind fun x_6 => (if x_6 = 0 then some 0 else ((fX9_placeIn glr i1).bind fun x_11 => ((fX9_tileRows glr glc gti gnr gnc gns).bind fun x_15 => (if x_15 ≤ x_11 then some 0 else ((fX9_placeIn glc i2).bind fun x_20 => ((fX9_tileColumns glc gti gnc gns).bind fun x_24 => (if x_24 ≤ x_20 then some 0 else some 1))))))))))
set_option maxHeartbeats 4000000 in
set_option maxRecDepth 100000 in
theorem kX9_does_r (l : Launch) (D : va_G) (cy : Nat → ClassId) (g : Nat) (gth : Int32) (gw : Nat) (gB : Nat) (gK : Nat) (gU : Nat) (gS : Nat) (gbe : Int32) (gwo : Int32) (gta : Int64) (gn : Nat) (glr : Int32) (glc : Int32) (gti : Int32) (ggo : Int32) (gR : Nat) (gch : Int32) (gD : Nat) (gnr : Int32) (gnk : Int32) (gnc : Int32) (gng : Int32) (gns : Int32) (gna : Nat) (gnb : Nat) (i1 : Int32) (i2 : Int32) {res : Int32} (hR : fX9_does_r glr glc gti gnr gnc gns i1 i2 = some res) : YM l D cy yX9_does hX9_does 4 0 0 [.ref g, .int i1, .int i2] [[(g, .inr (11, [.int gth, .ref gw, .ref gB, .ref gK, .ref gU, .ref gS, .int gbe, .int gwo, .long gta, .ref gn, .int glr, .int glc, .int gti, .int ggo, .ref gR, .int gch, .ref gD]))], [(gn, .inr (10, [.int gnr, .int gnk, .int gnc, .int gng, .int gns, .ref gna, .ref gnb]))]] (fun v u => v = some (.int res) ∧ u = [[(g, .inr (11, [.int gth, .ref gw, .ref gB, .ref gK, .ref gU, .ref gS, .int gbe, .int gwo, .long gta, .ref gn, .int glr, .int glc, .int gti, .int ggo, .ref gR, .int gch, .ref gD]))], [(gn, .inr (10, [.int gnr, .int gnk, .int gnc, .int gng, .int gns, .ref gna, .ref gnb]))]]) := by
  unfold fX9_does_r at hR
  refine YM.ofZ (cc := cX9_does) (maxL := 3) (ret := (some .boolean)) (by decide +kernel) rfl (Nat.le_of_ble_eq_true rfl) [(0, .ref g), (1, .int i1), (2, .int i2)] rfl .boolean rfl (fun p e s m args below meth c A H0 Q C hnm ret => ?_)
  refine xr_aload_n (n := 1) (j := 0) C dd_X9_does_0.1 rfl rfl ?_
  refine xr_get (n := 4) C 0 rfl rfl 9 (by decide) in_X9 u_1246 rfl (v := .ref gn) rfl dd_X9_does_0.2.1 rfl ?_
  refine xr_ifnull (n := 7) C dd_X9_does_0.2.2.1 rfl ?_
  refine xr_aload_n (n := 8) (j := 0) C dd_X9_does_0.2.2.2.1 rfl rfl ?_
  refine xr_get (n := 11) C 0 rfl rfl 10 (by decide) in_X9 u_1247 rfl (v := .int glr) rfl dd_X9_does_0.2.2.2.2.1 rfl ?_
  refine xr_iload_n (n := 12) (j := 1) C dd_X9_does_0.2.2.2.2.2.1 rfl rfl ?_
  obtain ⟨x_1, hx_1, hR⟩ := yf_b hR
  refine xr_callSp (n := 15) (As := [.int glr, .int i1]) (rest := []) C (kX9_has l D cy (i1 := glr) (i2 := i1) hx_1) mX9_has u_1377 u_1378 2 [] [0, 1] rfl (by decide +kernel) rfl rfl rfl rfl (Nat.le_of_ble_eq_true rfl) (Nat.le_of_ble_eq_true rfl) (Nat.le_of_ble_eq_true rfl) (Nat.le_of_ble_eq_true rfl) (Nat.le_of_ble_eq_true rfl) dd_X9_does_0.2.2.2.2.2.2.1 rfl (fun _ _ hp => hp.2) (fun v_2 hp_4 => ?_)
  obtain ⟨rfl, -⟩ := hp_4
  refine xr_st (st' := [.int x_1]) rfl ?_
  refine xr_if_eq (tgt := 63) (n := 18) C dd_X9_does_0.2.2.2.2.2.2.2.1 rfl rfl (fun c_5 => ?_) (fun c_5 => ?_)
  · replace hR := yf_t c_5 hR
    refine xr_iconst (n := 64) (v := 0) C dd_X9_does_1.2.2.2.2.2.2.2.2.2.2.2.2.2.1 rfl rfl ?_
    obtain rfl := Option.some.inj hR
    exact ret 0 (by decide) ⟨rfl, rfl⟩ (Nat.le_of_ble_eq_true rfl) (Nat.le_of_ble_eq_true rfl) dd_X9_does_1.2.2.2.2.2.2.2.2.2.2.2.2.2.2.1
  · replace hR := yf_f c_5 hR
    refine xr_aload_n (n := 19) (j := 0) C dd_X9_does_0.2.2.2.2.2.2.2.2.1 rfl rfl ?_
    refine xr_get (n := 22) C 0 rfl rfl 11 (by decide) in_X9 u_1248 rfl (v := .int glc) rfl dd_X9_does_0.2.2.2.2.2.2.2.2.2.1 rfl ?_
    refine xr_iload_n (n := 23) (j := 2) C dd_X9_does_0.2.2.2.2.2.2.2.2.2.2.1 rfl rfl ?_
    obtain ⟨x_6, hx_6, hR⟩ := yf_b hR
    refine xr_callSp (n := 26) (As := [.int glc, .int i2]) (rest := []) C (kX9_has l D cy (i1 := glc) (i2 := i2) hx_6) mX9_has u_1377 u_1378 2 [] [0, 1] rfl (by decide +kernel) rfl rfl rfl rfl (Nat.le_of_ble_eq_true rfl) (Nat.le_of_ble_eq_true rfl) (Nat.le_of_ble_eq_true rfl) (Nat.le_of_ble_eq_true rfl) (Nat.le_of_ble_eq_true rfl) dd_X9_does_0.2.2.2.2.2.2.2.2.2.2.2.1 rfl (fun _ _ hp => hp.2) (fun v_7 hp_9 => ?_)
    obtain ⟨rfl, -⟩ := hp_9
    refine xr_st (st' := [.int x_6]) rfl ?_
    refine xr_if_eq (tgt := 63) (n := 29) C dd_X9_does_0.2.2.2.2.2.2.2.2.2.2.2.2.1 rfl rfl (fun c_10 => ?_) (fun c_10 => ?_)
    · replace hR := yf_t c_10 hR
      refine xr_iconst (n := 64) (v := 0) C dd_X9_does_1.2.2.2.2.2.2.2.2.2.2.2.2.2.1 rfl rfl ?_
      obtain rfl := Option.some.inj hR
      exact ret 0 (by decide) ⟨rfl, rfl⟩ (Nat.le_of_ble_eq_true rfl) (Nat.le_of_ble_eq_true rfl) dd_X9_does_1.2.2.2.2.2.2.2.2.2.2.2.2.2.2.1
    · replace hR := yf_f c_10 hR
      refine xr_aload_n (n := 30) (j := 0) C dd_X9_does_0.2.2.2.2.2.2.2.2.2.2.2.2.2.1 rfl rfl ?_
      refine xr_get (n := 33) C 0 rfl rfl 10 (by decide) in_X9 u_1247 rfl (v := .int glr) rfl dd_X9_does_0.2.2.2.2.2.2.2.2.2.2.2.2.2.2.1 rfl ?_
      refine xr_iload_n (n := 34) (j := 1) C dd_X9_does_0.2.2.2.2.2.2.2.2.2.2.2.2.2.2.2.1 rfl rfl ?_
      obtain ⟨x_11, hx_11, hR⟩ := yf_b hR
      refine xr_callSp (n := 37) (As := [.int glr, .int i1]) (rest := []) C (kX9_placeIn l D cy (i1 := glr) (i2 := i1) hx_11) mX9_placeIn u_1528 u_1529 2 [] [0, 1] rfl (by decide +kernel) rfl rfl rfl rfl (Nat.le_of_ble_eq_true rfl) (Nat.le_of_ble_eq_true rfl) (Nat.le_of_ble_eq_true rfl) (Nat.le_of_ble_eq_true rfl) (Nat.le_of_ble_eq_true rfl) dd_X9_does_1.1 rfl (fun _ _ hp => hp.2) (fun v_12 hp_14 => ?_)
      obtain ⟨rfl, -⟩ := hp_14
      refine xr_st (st' := [.int x_11]) rfl ?_
      refine xr_aload_n (n := 38) (j := 0) C dd_X9_does_1.2.1 rfl rfl ?_
      obtain ⟨x_15, hx_15, hR⟩ := yf_b hR
      refine xr_callVp (n := 41) (As := []) (rest := [.int x_11]) C (kX9_tileRows l D cy (g := g) (gth := gth) (gw := gw) (gB := gB) (gK := gK) (gU := gU) (gS := gS) (gbe := gbe) (gwo := gwo) (gta := gta) (gn := gn) (glr := glr) (glc := glc) (gti := gti) (ggo := ggo) (gR := gR) (gch := gch) (gD := gD) (gnr := gnr) (gnk := gnk) (gnc := gnc) (gng := gng) (gns := gns) (gna := gna) (gnb := gnb) hx_15) mX9_tileRows u_1443 u_1445 u_40 0 rfl rfl 2 [0, 1] [] rfl (by decide +kernel) rfl rfl rfl rfl (Nat.le_of_ble_eq_true rfl) (Nat.le_of_ble_eq_true rfl) (Nat.le_of_ble_eq_true rfl) (Nat.le_of_ble_eq_true rfl) (Nat.le_of_ble_eq_true rfl) dd_X9_does_1.2.2.1 rfl (fun _ _ hp => hp.2) (fun v_16 hp_18 => ?_)
      obtain ⟨rfl, -⟩ := hp_18
      refine xr_st (st' := [.int x_15, .int x_11]) rfl ?_
      refine xr_icmp_ge (tgt := 63) (n := 44) C dd_X9_does_1.2.2.2.1 rfl rfl (fun c_19 => ?_) (fun c_19 => ?_)
      · replace hR := yf_t c_19 hR
        refine xr_iconst (n := 64) (v := 0) C dd_X9_does_1.2.2.2.2.2.2.2.2.2.2.2.2.2.1 rfl rfl ?_
        obtain rfl := Option.some.inj hR
        exact ret 0 (by decide) ⟨rfl, rfl⟩ (Nat.le_of_ble_eq_true rfl) (Nat.le_of_ble_eq_true rfl) dd_X9_does_1.2.2.2.2.2.2.2.2.2.2.2.2.2.2.1
      · replace hR := yf_f c_19 hR
        refine xr_aload_n (n := 45) (j := 0) C dd_X9_does_1.2.2.2.2.1 rfl rfl ?_
        refine xr_get (n := 48) C 0 rfl rfl 11 (by decide) in_X9 u_1248 rfl (v := .int glc) rfl dd_X9_does_1.2.2.2.2.2.1 rfl ?_
        refine xr_iload_n (n := 49) (j := 2) C dd_X9_does_1.2.2.2.2.2.2.1 rfl rfl ?_
        obtain ⟨x_20, hx_20, hR⟩ := yf_b hR
        refine xr_callSp (n := 52) (As := [.int glc, .int i2]) (rest := []) C (kX9_placeIn l D cy (i1 := glc) (i2 := i2) hx_20) mX9_placeIn u_1528 u_1529 2 [] [0, 1] rfl (by decide +kernel) rfl rfl rfl rfl (Nat.le_of_ble_eq_true rfl) (Nat.le_of_ble_eq_true rfl) (Nat.le_of_ble_eq_true rfl) (Nat.le_of_ble_eq_true rfl) (Nat.le_of_ble_eq_true rfl) dd_X9_does_1.2.2.2.2.2.2.2.1 rfl (fun _ _ hp => hp.2) (fun v_21 hp_23 => ?_)
        obtain ⟨rfl, -⟩ := hp_23
        refine xr_st (st' := [.int x_20]) rfl ?_
        refine xr_aload_n (n := 53) (j := 0) C dd_X9_does_1.2.2.2.2.2.2.2.2.1 rfl rfl ?_
        obtain ⟨x_24, hx_24, hR⟩ := yf_b hR
        refine xr_callVp (n := 56) (As := []) (rest := [.int x_20]) C (kX9_tileColumns l D cy (g := g) (gth := gth) (gw := gw) (gB := gB) (gK := gK) (gU := gU) (gS := gS) (gbe := gbe) (gwo := gwo) (gta := gta) (gn := gn) (glr := glr) (glc := glc) (gti := gti) (ggo := ggo) (gR := gR) (gch := gch) (gD := gD) (gnr := gnr) (gnk := gnk) (gnc := gnc) (gng := gng) (gns := gns) (gna := gna) (gnb := gnb) hx_24) mX9_tileColumns u_1447 u_1449 u_41 0 rfl rfl 2 [0, 1] [] rfl (by decide +kernel) rfl rfl rfl rfl (Nat.le_of_ble_eq_true rfl) (Nat.le_of_ble_eq_true rfl) (Nat.le_of_ble_eq_true rfl) (Nat.le_of_ble_eq_true rfl) (Nat.le_of_ble_eq_true rfl) dd_X9_does_1.2.2.2.2.2.2.2.2.2.1 rfl (fun _ _ hp => hp.2) (fun v_25 hp_27 => ?_)
        obtain ⟨rfl, -⟩ := hp_27
        refine xr_st (st' := [.int x_24, .int x_20]) rfl ?_
        refine xr_icmp_ge (tgt := 63) (n := 59) C dd_X9_does_1.2.2.2.2.2.2.2.2.2.2.1 rfl rfl (fun c_28 => ?_) (fun c_28 => ?_)
        · replace hR := yf_t c_28 hR
          refine xr_iconst (n := 64) (v := 0) C dd_X9_does_1.2.2.2.2.2.2.2.2.2.2.2.2.2.1 rfl rfl ?_
          obtain rfl := Option.some.inj hR
          exact ret 0 (by decide) ⟨rfl, rfl⟩ (Nat.le_of_ble_eq_true rfl) (Nat.le_of_ble_eq_true rfl) dd_X9_does_1.2.2.2.2.2.2.2.2.2.2.2.2.2.2.1
        · replace hR := yf_f c_28 hR
          refine xr_iconst (n := 60) (v := 1) C dd_X9_does_1.2.2.2.2.2.2.2.2.2.2.2.1 rfl rfl ?_
          refine xr_goto (tgt := 64) C dd_X9_does_1.2.2.2.2.2.2.2.2.2.2.2.2.1 rfl ?_
          obtain rfl := Option.some.inj hR
          exact ret 1 (by decide) ⟨rfl, rfl⟩ (Nat.le_of_ble_eq_true rfl) (Nat.le_of_ble_eq_true rfl) dd_X9_does_1.2.2.2.2.2.2.2.2.2.2.2.2.2.2.1
theorem dX9_cellTold_1 : decode cX9_cellTold 1 = .ok (.tableswitch 85 0 2 #[27, 54, 63], 27) := by decide +kernel
theorem dd_X9_cellTold_0 : dk_R cX9_cellTold [(0, .iload_n 3, 1), (28, .aload_n 0, 1), (29, .getfield 27, 3), (32, .iload_n 1, 1), (33, .aaload, 1), (34, .iload_n 2, 1), (35, .baload, 1), (36, .ifCond .eq 7, 3), (39, .iconst 2, 1), (40, .goto 14, 3), (43, .aload_n 0, 1), (44, .getfield 24, 3), (47, .iload_n 1, 1), (48, .aaload, 1), (49, .iload_n 2, 1), (50, .baload, 1)] := dk_use _ _ (by decide +kernel)
theorem dd_X9_cellTold_1 : dk_R cX9_cellTold [(51, .invokestatic 71, 3), (54, .ireturn, 1), (55, .aload_n 0, 1), (56, .getfield 32, 3), (59, .iload_n 1, 1), (60, .aaload, 1), (61, .iload_n 2, 1), (62, .iaload, 1), (63, .ireturn, 1), (64, .aload_n 0, 1), (65, .iload_n 1, 1), (66, .iload_n 2, 1), (67, .invokevirtual 247, 3), (70, .ifCond .eq 14, 3), (73, .aload_n 0, 1), (74, .getfield 35, 3)] := dk_use _ _ (by decide +kernel)
theorem dd_X9_cellTold_2 : dk_R cX9_cellTold [(77, .iload_n 1, 1), (78, .aaload, 1), (79, .iload_n 2, 1), (80, .iaload, 1), (81, .goto 4, 3), (84, .iconst 0, 1), (85, .ireturn, 1), (86, .aload_n 0, 1), (87, .iload_n 1, 1), (88, .iload_n 2, 1), (89, .invokevirtual 247, 3), (92, .ifCond .eq 10, 3), (95, .aload_n 0, 1), (96, .getfield 167, 3), (99, .ifCond .ne 7, 3), (102, .iconst (-1), 1)] := dk_use _ _ (by decide +kernel)
theorem dd_X9_cellTold_3 : dk_R cX9_cellTold [(103, .goto 29, 3), (106, .aload_n 0, 1), (107, .aload_n 0, 1), (108, .getfield 167, 3), (111, .iconst 1, 1), (112, .isub, 1), (113, .aload_n 0, 1), (114, .getfield 146, 3), (117, .iload_n 1, 1), (118, .invokestatic 244, 3), (121, .aload_n 0, 1), (122, .getfield 149, 3), (125, .iload_n 2, 1), (126, .invokestatic 244, 3), (129, .invokevirtual 196, 3), (132, .ireturn, 1)] := dk_use _ _ (by decide +kernel)
def fX9_cellTold_i (gBG : Nat → Nat → Int32) (gKG : Nat → Nat → Int32) (gUG : Nat → Nat → Int32) (i1 : Int32) (i2 : Int32) (i3 : Int32) : Option (Int32) := (if i3 = 0 then (if ¬ (i1 < 0 ∨ 5 ≤ i1.toNatClampNeg) then (if ¬ (i2 < 0 ∨ 5 ≤ i2.toNatClampNeg) then (if (gKG i1.toNatClampNeg i2.toNatClampNeg) = 0 then (if ¬ (i1 < 0 ∨ 5 ≤ i1.toNatClampNeg) then (if ¬ (i2 < 0 ∨ 5 ≤ i2.toNatClampNeg) then ((fX9_one (gBG i1.toNatClampNeg i2.toNatClampNeg)).bind fun x_7 => some x_7) else none) else none) else some 2) else none) else none) else (if i3 = 1 then (if ¬ (i1 < 0 ∨ 5 ≤ i1.toNatClampNeg) then (if ¬ (i2 < 0 ∨ 5 ≤ i2.toNatClampNeg) then some (gUG i1.toNatClampNeg i2.toNatClampNeg) else none) else none) else (if i3 = 2 then ((fX9_does_i).bind fun x_15 => some 0) else ((fX9_does_i).bind fun x_20 => some (-1)))))
abbrev hX9_cellTold : Cond := .code yX9_cellTold cX9_cellTold 4 (some .int)
theorem mX9_cellTold : yM yX9_cellTold hX9_cellTold 3 := ⟨u_1523, u_64, by decide +kernel, by decide +kernel, by decide +kernel⟩
set_option maxHeartbeats 4000000 in
set_option maxRecDepth 100000 in
theorem kX9_cellTold_i (l : Launch) (D : va_G) (cy : Nat → ClassId) (g : Nat) (gth : Int32) (gw : Nat) (gB : Nat) (gK : Nat) (gU : Nat) (gS : Nat) (gbe : Int32) (gwo : Int32) (gta : Int64) (glr : Int32) (glc : Int32) (gti : Int32) (ggo : Int32) (gR : Nat) (gch : Int32) (gD : Nat) (gBd : Nat → Nat) (gBG : Nat → Nat → Int32) (gKd : Nat → Nat) (gKG : Nat → Nat → Int32) (gUd : Nat → Nat) (gUG : Nat → Nat → Int32) (gSd : Nat → Nat) (gSG : Nat → Nat → Int32) (i1 : Int32) (i2 : Int32) (i3 : Int32) {res : Int32} (hR : fX9_cellTold_i gBG gKG gUG i1 i2 i3 = some res) : YM l D cy yX9_cellTold hX9_cellTold 2 0 0 [.ref g, .int i1, .int i2, .int i3] [[(g, .inr (11, [.int gth, .ref gw, .ref gB, .ref gK, .ref gU, .ref gS, .int gbe, .int gwo, .long gta, .null, .int glr, .int glc, .int gti, .int ggo, .ref gR, .int gch, .ref gD]))], [(gB, .inl (cy 4, 5, .inr (.inr (.inr (.inr (yad gBd))))))], xg_rows gBd 5 (cy 2) 5 gBG, [(gK, .inl (cy 4, 5, .inr (.inr (.inr (.inr (yad gKd))))))], xg_rows gKd 5 (cy 2) 5 gKG, [(gU, .inl (cy 3, 5, .inr (.inr (.inr (.inr (yad gUd))))))], xg_rows gUd 5 (cy 1) 5 gUG, [(gS, .inl (cy 3, 5, .inr (.inr (.inr (.inr (yad gSd))))))], xg_rows gSd 5 (cy 1) 5 gSG] (fun v u => v = some (.int res) ∧ u = [[(g, .inr (11, [.int gth, .ref gw, .ref gB, .ref gK, .ref gU, .ref gS, .int gbe, .int gwo, .long gta, .null, .int glr, .int glc, .int gti, .int ggo, .ref gR, .int gch, .ref gD]))], [(gB, .inl (cy 4, 5, .inr (.inr (.inr (.inr (yad gBd))))))], xg_rows gBd 5 (cy 2) 5 gBG, [(gK, .inl (cy 4, 5, .inr (.inr (.inr (.inr (yad gKd))))))], xg_rows gKd 5 (cy 2) 5 gKG, [(gU, .inl (cy 3, 5, .inr (.inr (.inr (.inr (yad gUd))))))], xg_rows gUd 5 (cy 1) 5 gUG, [(gS, .inl (cy 3, 5, .inr (.inr (.inr (.inr (yad gSd))))))], xg_rows gSd 5 (cy 1) 5 gSG]) := by
  unfold fX9_cellTold_i at hR
  refine YM.ofI (cc := cX9_cellTold) (maxL := 4) (ret := (some .int)) (by decide +kernel) rfl (Nat.le_of_ble_eq_true rfl) [(0, .ref g), (1, .int i1), (2, .int i2), (3, .int i3)] rfl rfl (fun p e s m args below meth c A H0 Q C hnm ret => ?_)
  refine xr_iload_n (n := 1) (j := 3) C dd_X9_cellTold_0.1 rfl rfl ?_
  by_cases c_1 : i3 = 0
  · replace hR := yf_t c_1 hR
    refine xr_tableIn (off := 27) (tgt := 28) C dX9_cellTold_1 (by rw [c_1]; decide) (by rw [c_1]; decide) (by rw [c_1]; decide) rfl ?_
    refine xr_aload_n (n := 29) (j := 0) C dd_X9_cellTold_0.2.1 rfl rfl ?_
    refine xr_get (n := 32) C 0 rfl rfl 3 (by decide) in_X9 u_1240 rfl (v := .ref gK) rfl dd_X9_cellTold_0.2.2.1 rfl ?_
    refine xr_iload_n (n := 33) (j := 1) C dd_X9_cellTold_0.2.2.2.1 rfl rfl ?_
    obtain ⟨g_2, hR⟩ := yf_g hR
    refine xr_aald (n := 34) C 3 0 rfl 4 rfl rfl g_2 rfl dd_X9_cellTold_0.2.2.2.2.1 rfl ?_
    refine xr_iload_n (n := 35) (j := 2) C dd_X9_cellTold_0.2.2.2.2.2.1 rfl rfl ?_
    obtain ⟨g_3, hR⟩ := yf_g hR
    refine xr_zaldg (n := 36) C 4 rfl i1.toNatClampNeg (ylt g_2) g_3 dd_X9_cellTold_0.2.2.2.2.2.2.1 rfl ?_
    refine xr_if_eq (tgt := 43) (n := 39) C dd_X9_cellTold_0.2.2.2.2.2.2.2.1 rfl rfl (fun c_4 => ?_) (fun c_4 => ?_)
    · replace hR := yf_t c_4 hR
      refine xr_aload_n (n := 44) (j := 0) C dd_X9_cellTold_0.2.2.2.2.2.2.2.2.2.2.1 rfl rfl ?_
      refine xr_get (n := 47) C 0 rfl rfl 2 (by decide) in_X9 u_1239 rfl (v := .ref gB) rfl dd_X9_cellTold_0.2.2.2.2.2.2.2.2.2.2.2.1 rfl ?_
      refine xr_iload_n (n := 48) (j := 1) C dd_X9_cellTold_0.2.2.2.2.2.2.2.2.2.2.2.2.1 rfl rfl ?_
      obtain ⟨g_5, hR⟩ := yf_g hR
      refine xr_aald (n := 49) C 1 0 rfl 4 rfl rfl g_5 rfl dd_X9_cellTold_0.2.2.2.2.2.2.2.2.2.2.2.2.2.1 rfl ?_
      refine xr_iload_n (n := 50) (j := 2) C dd_X9_cellTold_0.2.2.2.2.2.2.2.2.2.2.2.2.2.2.1 rfl rfl ?_
      obtain ⟨g_6, hR⟩ := yf_g hR
      refine xr_zaldg (n := 51) C 2 rfl i1.toNatClampNeg (ylt g_5) g_6 dd_X9_cellTold_0.2.2.2.2.2.2.2.2.2.2.2.2.2.2.2.1 rfl ?_
      obtain ⟨x_7, hx_7, hR⟩ := yf_b hR
      refine xr_callSp (n := 54) (As := [.int (gBG i1.toNatClampNeg i2.toNatClampNeg)]) (rest := []) C (kX9_one l D cy (i1 := gBG i1.toNatClampNeg i2.toNatClampNeg) hx_7) mX9_one u_1312 u_1313 9 [] [0, 1, 2, 3, 4, 5, 6, 7, 8] rfl (by decide +kernel) rfl rfl rfl rfl (Nat.le_of_ble_eq_true rfl) (Nat.le_of_ble_eq_true rfl) (Nat.le_of_ble_eq_true rfl) (Nat.le_of_ble_eq_true rfl) (Nat.le_of_ble_eq_true rfl) dd_X9_cellTold_1.1 rfl (fun _ _ hp => hp.2) (fun v_8 hp_10 => ?_)
      obtain ⟨rfl, -⟩ := hp_10
      refine xr_st (st' := [.int x_7]) rfl ?_
      obtain rfl := Option.some.inj hR
      exact ret x_7 ⟨rfl, rfl⟩ (Nat.le_of_ble_eq_true rfl) (Nat.le_of_ble_eq_true rfl) dd_X9_cellTold_1.2.1
    · replace hR := yf_f c_4 hR
      refine xr_iconst (n := 40) (v := 2) C dd_X9_cellTold_0.2.2.2.2.2.2.2.2.1 rfl rfl ?_
      refine xr_goto (tgt := 54) C dd_X9_cellTold_0.2.2.2.2.2.2.2.2.2.1 rfl ?_
      obtain rfl := Option.some.inj hR
      exact ret 2 ⟨rfl, rfl⟩ (Nat.le_of_ble_eq_true rfl) (Nat.le_of_ble_eq_true rfl) dd_X9_cellTold_1.2.1
  replace hR := yf_f c_1 hR
  by_cases c_11 : i3 = 1
  · replace hR := yf_t c_11 hR
    refine xr_tableIn (off := 54) (tgt := 55) C dX9_cellTold_1 (by rw [c_11]; decide) (by rw [c_11]; decide) (by rw [c_11]; decide) rfl ?_
    refine xr_aload_n (n := 56) (j := 0) C dd_X9_cellTold_1.2.2.1 rfl rfl ?_
    refine xr_get (n := 59) C 0 rfl rfl 4 (by decide) in_X9 u_1241 rfl (v := .ref gU) rfl dd_X9_cellTold_1.2.2.2.1 rfl ?_
    refine xr_iload_n (n := 60) (j := 1) C dd_X9_cellTold_1.2.2.2.2.1 rfl rfl ?_
    obtain ⟨g_12, hR⟩ := yf_g hR
    refine xr_aald (n := 61) C 5 0 rfl 3 rfl rfl g_12 rfl dd_X9_cellTold_1.2.2.2.2.2.1 rfl ?_
    refine xr_iload_n (n := 62) (j := 2) C dd_X9_cellTold_1.2.2.2.2.2.2.1 rfl rfl ?_
    obtain ⟨g_13, hR⟩ := yf_g hR
    refine xr_ialdg (n := 63) C 6 rfl i1.toNatClampNeg (ylt g_12) g_13 dd_X9_cellTold_1.2.2.2.2.2.2.2.1 rfl ?_
    obtain rfl := Option.some.inj hR
    exact ret (gUG i1.toNatClampNeg i2.toNatClampNeg) ⟨rfl, rfl⟩ (Nat.le_of_ble_eq_true rfl) (Nat.le_of_ble_eq_true rfl) dd_X9_cellTold_1.2.2.2.2.2.2.2.2.1
  replace hR := yf_f c_11 hR
  by_cases c_14 : i3 = 2
  · replace hR := yf_t c_14 hR
    refine xr_tableIn (off := 63) (tgt := 64) C dX9_cellTold_1 (by rw [c_14]; decide) (by rw [c_14]; decide) (by rw [c_14]; decide) rfl ?_
    refine xr_aload_n (n := 65) (j := 0) C dd_X9_cellTold_1.2.2.2.2.2.2.2.2.2.1 rfl rfl ?_
    refine xr_iload_n (n := 66) (j := 1) C dd_X9_cellTold_1.2.2.2.2.2.2.2.2.2.2.1 rfl rfl ?_
    refine xr_iload_n (n := 67) (j := 2) C dd_X9_cellTold_1.2.2.2.2.2.2.2.2.2.2.2.1 rfl rfl ?_
    obtain ⟨x_15, hx_15, hR⟩ := yf_b hR
    obtain rfl := Option.some.inj (show some ((0) : Int32) = some x_15 from hx_15)
    refine xr_callVp (n := 70) (As := [.int i1, .int i2]) (rest := []) C (kX9_does_i l D cy (g := g) (gth := gth) (gw := gw) (gB := gB) (gK := gK) (gU := gU) (gS := gS) (gbe := gbe) (gwo := gwo) (gta := gta) (glr := glr) (glc := glc) (gti := gti) (ggo := ggo) (gR := gR) (gch := gch) (gD := gD) (i1 := i1) (i2 := i2) hx_15) mX9_does u_1524 u_1526 u_51 0 rfl rfl 9 [0] [1, 2, 3, 4, 5, 6, 7, 8] rfl (by decide +kernel) rfl rfl rfl rfl (Nat.le_of_ble_eq_true rfl) (Nat.le_of_ble_eq_true rfl) (Nat.le_of_ble_eq_true rfl) (Nat.le_of_ble_eq_true rfl) (Nat.le_of_ble_eq_true rfl) dd_X9_cellTold_1.2.2.2.2.2.2.2.2.2.2.2.2.1 rfl (fun _ _ hp => hp.2) (fun v_16 hp_18 => ?_)
    obtain ⟨rfl, -⟩ := hp_18
    refine xr_st (st' := [.int 0]) rfl ?_
    refine xr_if_eq (tgt := 84) (n := 73) C dd_X9_cellTold_1.2.2.2.2.2.2.2.2.2.2.2.2.2.1 rfl rfl (fun _ => ?_) (fun c_19 => absurd (by decide) c_19)
    refine xr_iconst (n := 85) (v := 0) C dd_X9_cellTold_2.2.2.2.2.2.1 rfl rfl ?_
    obtain rfl := Option.some.inj hR
    exact ret 0 ⟨rfl, rfl⟩ (Nat.le_of_ble_eq_true rfl) (Nat.le_of_ble_eq_true rfl) dd_X9_cellTold_2.2.2.2.2.2.2.1
  replace hR := yf_f c_14 hR
  refine xr_tableOut (tgt := 86) C dX9_cellTold_1 (ytab_out (fun k h1 h2 => by
    rcases (show k = 0 ∨ k = 1 ∨ k = 2 by omega) with rfl | rfl | rfl
    · exact c_1
    · exact c_11
    · exact c_14)) rfl ?_
  refine xr_aload_n (n := 87) (j := 0) C dd_X9_cellTold_2.2.2.2.2.2.2.2.1 rfl rfl ?_
  refine xr_iload_n (n := 88) (j := 1) C dd_X9_cellTold_2.2.2.2.2.2.2.2.2.1 rfl rfl ?_
  refine xr_iload_n (n := 89) (j := 2) C dd_X9_cellTold_2.2.2.2.2.2.2.2.2.2.1 rfl rfl ?_
  obtain ⟨x_20, hx_20, hR⟩ := yf_b hR
  obtain rfl := Option.some.inj (show some ((0) : Int32) = some x_20 from hx_20)
  refine xr_callVp (n := 92) (As := [.int i1, .int i2]) (rest := []) C (kX9_does_i l D cy (g := g) (gth := gth) (gw := gw) (gB := gB) (gK := gK) (gU := gU) (gS := gS) (gbe := gbe) (gwo := gwo) (gta := gta) (glr := glr) (glc := glc) (gti := gti) (ggo := ggo) (gR := gR) (gch := gch) (gD := gD) (i1 := i1) (i2 := i2) hx_20) mX9_does u_1524 u_1526 u_51 0 rfl rfl 9 [0] [1, 2, 3, 4, 5, 6, 7, 8] rfl (by decide +kernel) rfl rfl rfl rfl (Nat.le_of_ble_eq_true rfl) (Nat.le_of_ble_eq_true rfl) (Nat.le_of_ble_eq_true rfl) (Nat.le_of_ble_eq_true rfl) (Nat.le_of_ble_eq_true rfl) dd_X9_cellTold_2.2.2.2.2.2.2.2.2.2.2.1 rfl (fun _ _ hp => hp.2) (fun v_21 hp_23 => ?_)
  obtain ⟨rfl, -⟩ := hp_23
  refine xr_st (st' := [.int 0]) rfl ?_
  refine xr_if_eq (tgt := 102) (n := 95) C dd_X9_cellTold_2.2.2.2.2.2.2.2.2.2.2.2.1 rfl rfl (fun _ => ?_) (fun c_24 => absurd (by decide) c_24)
  refine xr_iconst (n := 103) (v := -1) C dd_X9_cellTold_2.2.2.2.2.2.2.2.2.2.2.2.2.2.2.2.1 rfl rfl ?_
  refine xr_goto (tgt := 132) C dd_X9_cellTold_3.1 rfl ?_
  obtain rfl := Option.some.inj hR
  exact ret (-1) ⟨rfl, rfl⟩ (Nat.le_of_ble_eq_true rfl) (Nat.le_of_ble_eq_true rfl) dd_X9_cellTold_3.2.2.2.2.2.2.2.2.2.2.2.2.2.2.2.1
def fX9_cellTold_r (glr : Int32) (glc : Int32) (gti : Int32) (ggo : Int32) (gBG : Nat → Nat → Int32) (gKG : Nat → Nat → Int32) (gUG : Nat → Nat → Int32) (gSG : Nat → Nat → Int32) (gnr : Int32) (gnk : Int32) (gnc : Int32) (gng : Int32) (gns : Int32) (gnan : Nat) (gnak : Nat) (gnaG : Nat → Nat → Int32) (gnbn : Nat) (gnbk : Nat) (gnbG : Nat → Nat → Int32) (i1 : Int32) (i2 : Int32) (i3 : Int32) : Option (Int32) := (if i3 = 0 then (if ¬ (i1 < 0 ∨ 5 ≤ i1.toNatClampNeg) then (if ¬ (i2 < 0 ∨ 5 ≤ i2.toNatClampNeg) then (if (gKG i1.toNatClampNeg i2.toNatClampNeg) = 0 then (if ¬ (i1 < 0 ∨ 5 ≤ i1.toNatClampNeg) then (if ¬ (i2 < 0 ∨ 5 ≤ i2.toNatClampNeg) then ((fX9_one (gBG i1.toNatClampNeg i2.toNatClampNeg)).bind fun x_7 => some x_7) else none) else none) else some 2) else none) else none) else (if i3 = 1 then (if ¬ (i1 < 0 ∨ 5 ≤ i1.toNatClampNeg) then (if ¬ (i2 < 0 ∨ 5 ≤ i2.toNatClampNeg) then some (gUG i1.toNatClampNeg i2.toNatClampNeg) else none) else none) else (if i3 = 2 then ((fX9_does_r glr glc gti gnr gnc gns i1 i2).bind fun x_15 => (if x_15 = 0 then some 0 else (if ¬ (i1 < 0 ∨ 5 ≤ i1.toNatClampNeg) then (if ¬ (i2 < 0 ∨ 5 ≤ i2.toNatClampNeg) then some (gSG i1.toNatClampNeg i2.toNatClampNeg) else none) else none))) else ((fX9_does_r glr glc gti gnr gnc gns i1 i2).bind fun x_22 => (if x_22 = 0 then some (-1) else (if ggo = 0 then some (-1) else ((fX9_placeIn glr i1).bind fun x_28 => ((fX9_placeIn glc i2).bind fun x_32 => ((fX9_stepTaken gnk gng gnan gnak gnaG gnbn gnbk gnbG (ggo - 1) x_28 x_32).bind fun x_36 => some x_36)))))))))
set_option maxHeartbeats 4000000 in
set_option maxRecDepth 100000 in
theorem kX9_cellTold_r (l : Launch) (D : va_G) (cy : Nat → ClassId) (g : Nat) (gth : Int32) (gw : Nat) (gB : Nat) (gK : Nat) (gU : Nat) (gS : Nat) (gbe : Int32) (gwo : Int32) (gta : Int64) (gn : Nat) (glr : Int32) (glc : Int32) (gti : Int32) (ggo : Int32) (gR : Nat) (gch : Int32) (gD : Nat) (gBd : Nat → Nat) (gBG : Nat → Nat → Int32) (gKd : Nat → Nat) (gKG : Nat → Nat → Int32) (gUd : Nat → Nat) (gUG : Nat → Nat → Int32) (gSd : Nat → Nat) (gSG : Nat → Nat → Int32) (gnr : Int32) (gnk : Int32) (gnc : Int32) (gng : Int32) (gns : Int32) (gna : Nat) (gnb : Nat) (gnad : Nat → Nat) (gnan : Nat) (gnak : Nat) (gnaG : Nat → Nat → Int32) (gnbd : Nat → Nat) (gnbn : Nat) (gnbk : Nat) (gnbG : Nat → Nat → Int32) (i1 : Int32) (i2 : Int32) (i3 : Int32) {res : Int32} (hR : fX9_cellTold_r glr glc gti ggo gBG gKG gUG gSG gnr gnk gnc gng gns gnan gnak gnaG gnbn gnbk gnbG i1 i2 i3 = some res) : YM l D cy yX9_cellTold hX9_cellTold 5 0 0 [.ref g, .int i1, .int i2, .int i3] [[(g, .inr (11, [.int gth, .ref gw, .ref gB, .ref gK, .ref gU, .ref gS, .int gbe, .int gwo, .long gta, .ref gn, .int glr, .int glc, .int gti, .int ggo, .ref gR, .int gch, .ref gD]))], [(gB, .inl (cy 4, 5, .inr (.inr (.inr (.inr (yad gBd))))))], xg_rows gBd 5 (cy 2) 5 gBG, [(gK, .inl (cy 4, 5, .inr (.inr (.inr (.inr (yad gKd))))))], xg_rows gKd 5 (cy 2) 5 gKG, [(gU, .inl (cy 3, 5, .inr (.inr (.inr (.inr (yad gUd))))))], xg_rows gUd 5 (cy 1) 5 gUG, [(gS, .inl (cy 3, 5, .inr (.inr (.inr (.inr (yad gSd))))))], xg_rows gSd 5 (cy 1) 5 gSG, [(gn, .inr (10, [.int gnr, .int gnk, .int gnc, .int gng, .int gns, .ref gna, .ref gnb]))], [(gna, .inl (cy 3, gnan, .inr (.inr (.inr (.inr (yad gnad))))))], xg_rows gnad gnan (cy 1) gnak gnaG, [(gnb, .inl (cy 3, gnbn, .inr (.inr (.inr (.inr (yad gnbd))))))], xg_rows gnbd gnbn (cy 1) gnbk gnbG] (fun v u => v = some (.int res) ∧ u = [[(g, .inr (11, [.int gth, .ref gw, .ref gB, .ref gK, .ref gU, .ref gS, .int gbe, .int gwo, .long gta, .ref gn, .int glr, .int glc, .int gti, .int ggo, .ref gR, .int gch, .ref gD]))], [(gB, .inl (cy 4, 5, .inr (.inr (.inr (.inr (yad gBd))))))], xg_rows gBd 5 (cy 2) 5 gBG, [(gK, .inl (cy 4, 5, .inr (.inr (.inr (.inr (yad gKd))))))], xg_rows gKd 5 (cy 2) 5 gKG, [(gU, .inl (cy 3, 5, .inr (.inr (.inr (.inr (yad gUd))))))], xg_rows gUd 5 (cy 1) 5 gUG, [(gS, .inl (cy 3, 5, .inr (.inr (.inr (.inr (yad gSd))))))], xg_rows gSd 5 (cy 1) 5 gSG, [(gn, .inr (10, [.int gnr, .int gnk, .int gnc, .int gng, .int gns, .ref gna, .ref gnb]))], [(gna, .inl (cy 3, gnan, .inr (.inr (.inr (.inr (yad gnad))))))], xg_rows gnad gnan (cy 1) gnak gnaG, [(gnb, .inl (cy 3, gnbn, .inr (.inr (.inr (.inr (yad gnbd))))))], xg_rows gnbd gnbn (cy 1) gnbk gnbG]) := by
  unfold fX9_cellTold_r at hR
  refine YM.ofI (cc := cX9_cellTold) (maxL := 4) (ret := (some .int)) (by decide +kernel) rfl (Nat.le_of_ble_eq_true rfl) [(0, .ref g), (1, .int i1), (2, .int i2), (3, .int i3)] rfl rfl (fun p e s m args below meth c A H0 Q C hnm ret => ?_)
  refine xr_iload_n (n := 1) (j := 3) C dd_X9_cellTold_0.1 rfl rfl ?_
  by_cases c_1 : i3 = 0
  · replace hR := yf_t c_1 hR
    refine xr_tableIn (off := 27) (tgt := 28) C dX9_cellTold_1 (by rw [c_1]; decide) (by rw [c_1]; decide) (by rw [c_1]; decide) rfl ?_
    refine xr_aload_n (n := 29) (j := 0) C dd_X9_cellTold_0.2.1 rfl rfl ?_
    refine xr_get (n := 32) C 0 rfl rfl 3 (by decide) in_X9 u_1240 rfl (v := .ref gK) rfl dd_X9_cellTold_0.2.2.1 rfl ?_
    refine xr_iload_n (n := 33) (j := 1) C dd_X9_cellTold_0.2.2.2.1 rfl rfl ?_
    obtain ⟨g_2, hR⟩ := yf_g hR
    refine xr_aald (n := 34) C 3 0 rfl 4 rfl rfl g_2 rfl dd_X9_cellTold_0.2.2.2.2.1 rfl ?_
    refine xr_iload_n (n := 35) (j := 2) C dd_X9_cellTold_0.2.2.2.2.2.1 rfl rfl ?_
    obtain ⟨g_3, hR⟩ := yf_g hR
    refine xr_zaldg (n := 36) C 4 rfl i1.toNatClampNeg (ylt g_2) g_3 dd_X9_cellTold_0.2.2.2.2.2.2.1 rfl ?_
    refine xr_if_eq (tgt := 43) (n := 39) C dd_X9_cellTold_0.2.2.2.2.2.2.2.1 rfl rfl (fun c_4 => ?_) (fun c_4 => ?_)
    · replace hR := yf_t c_4 hR
      refine xr_aload_n (n := 44) (j := 0) C dd_X9_cellTold_0.2.2.2.2.2.2.2.2.2.2.1 rfl rfl ?_
      refine xr_get (n := 47) C 0 rfl rfl 2 (by decide) in_X9 u_1239 rfl (v := .ref gB) rfl dd_X9_cellTold_0.2.2.2.2.2.2.2.2.2.2.2.1 rfl ?_
      refine xr_iload_n (n := 48) (j := 1) C dd_X9_cellTold_0.2.2.2.2.2.2.2.2.2.2.2.2.1 rfl rfl ?_
      obtain ⟨g_5, hR⟩ := yf_g hR
      refine xr_aald (n := 49) C 1 0 rfl 4 rfl rfl g_5 rfl dd_X9_cellTold_0.2.2.2.2.2.2.2.2.2.2.2.2.2.1 rfl ?_
      refine xr_iload_n (n := 50) (j := 2) C dd_X9_cellTold_0.2.2.2.2.2.2.2.2.2.2.2.2.2.2.1 rfl rfl ?_
      obtain ⟨g_6, hR⟩ := yf_g hR
      refine xr_zaldg (n := 51) C 2 rfl i1.toNatClampNeg (ylt g_5) g_6 dd_X9_cellTold_0.2.2.2.2.2.2.2.2.2.2.2.2.2.2.2.1 rfl ?_
      obtain ⟨x_7, hx_7, hR⟩ := yf_b hR
      refine xr_callSp (n := 54) (As := [.int (gBG i1.toNatClampNeg i2.toNatClampNeg)]) (rest := []) C (kX9_one l D cy (i1 := gBG i1.toNatClampNeg i2.toNatClampNeg) hx_7) mX9_one u_1312 u_1313 14 [] [0, 1, 2, 3, 4, 5, 6, 7, 8, 9, 10, 11, 12, 13] rfl (by decide +kernel) rfl rfl rfl rfl (Nat.le_of_ble_eq_true rfl) (Nat.le_of_ble_eq_true rfl) (Nat.le_of_ble_eq_true rfl) (Nat.le_of_ble_eq_true rfl) (Nat.le_of_ble_eq_true rfl) dd_X9_cellTold_1.1 rfl (fun _ _ hp => hp.2) (fun v_8 hp_10 => ?_)
      obtain ⟨rfl, -⟩ := hp_10
      refine xr_st (st' := [.int x_7]) rfl ?_
      obtain rfl := Option.some.inj hR
      exact ret x_7 ⟨rfl, rfl⟩ (Nat.le_of_ble_eq_true rfl) (Nat.le_of_ble_eq_true rfl) dd_X9_cellTold_1.2.1
    · replace hR := yf_f c_4 hR
      refine xr_iconst (n := 40) (v := 2) C dd_X9_cellTold_0.2.2.2.2.2.2.2.2.1 rfl rfl ?_
      refine xr_goto (tgt := 54) C dd_X9_cellTold_0.2.2.2.2.2.2.2.2.2.1 rfl ?_
      obtain rfl := Option.some.inj hR
      exact ret 2 ⟨rfl, rfl⟩ (Nat.le_of_ble_eq_true rfl) (Nat.le_of_ble_eq_true rfl) dd_X9_cellTold_1.2.1
  replace hR := yf_f c_1 hR
  by_cases c_11 : i3 = 1
  · replace hR := yf_t c_11 hR
    refine xr_tableIn (off := 54) (tgt := 55) C dX9_cellTold_1 (by rw [c_11]; decide) (by rw [c_11]; decide) (by rw [c_11]; decide) rfl ?_
    refine xr_aload_n (n := 56) (j := 0) C dd_X9_cellTold_1.2.2.1 rfl rfl ?_
    refine xr_get (n := 59) C 0 rfl rfl 4 (by decide) in_X9 u_1241 rfl (v := .ref gU) rfl dd_X9_cellTold_1.2.2.2.1 rfl ?_
    refine xr_iload_n (n := 60) (j := 1) C dd_X9_cellTold_1.2.2.2.2.1 rfl rfl ?_
    obtain ⟨g_12, hR⟩ := yf_g hR
    refine xr_aald (n := 61) C 5 0 rfl 3 rfl rfl g_12 rfl dd_X9_cellTold_1.2.2.2.2.2.1 rfl ?_
    refine xr_iload_n (n := 62) (j := 2) C dd_X9_cellTold_1.2.2.2.2.2.2.1 rfl rfl ?_
    obtain ⟨g_13, hR⟩ := yf_g hR
    refine xr_ialdg (n := 63) C 6 rfl i1.toNatClampNeg (ylt g_12) g_13 dd_X9_cellTold_1.2.2.2.2.2.2.2.1 rfl ?_
    obtain rfl := Option.some.inj hR
    exact ret (gUG i1.toNatClampNeg i2.toNatClampNeg) ⟨rfl, rfl⟩ (Nat.le_of_ble_eq_true rfl) (Nat.le_of_ble_eq_true rfl) dd_X9_cellTold_1.2.2.2.2.2.2.2.2.1
  replace hR := yf_f c_11 hR
  by_cases c_14 : i3 = 2
  · replace hR := yf_t c_14 hR
    refine xr_tableIn (off := 63) (tgt := 64) C dX9_cellTold_1 (by rw [c_14]; decide) (by rw [c_14]; decide) (by rw [c_14]; decide) rfl ?_
    refine xr_aload_n (n := 65) (j := 0) C dd_X9_cellTold_1.2.2.2.2.2.2.2.2.2.1 rfl rfl ?_
    refine xr_iload_n (n := 66) (j := 1) C dd_X9_cellTold_1.2.2.2.2.2.2.2.2.2.2.1 rfl rfl ?_
    refine xr_iload_n (n := 67) (j := 2) C dd_X9_cellTold_1.2.2.2.2.2.2.2.2.2.2.2.1 rfl rfl ?_
    obtain ⟨x_15, hx_15, hR⟩ := yf_b hR
    refine xr_callVp (n := 70) (As := [.int i1, .int i2]) (rest := []) C (kX9_does_r l D cy (g := g) (gth := gth) (gw := gw) (gB := gB) (gK := gK) (gU := gU) (gS := gS) (gbe := gbe) (gwo := gwo) (gta := gta) (gn := gn) (glr := glr) (glc := glc) (gti := gti) (ggo := ggo) (gR := gR) (gch := gch) (gD := gD) (gnr := gnr) (gnk := gnk) (gnc := gnc) (gng := gng) (gns := gns) (gna := gna) (gnb := gnb) (i1 := i1) (i2 := i2) hx_15) mX9_does u_1524 u_1526 u_51 0 rfl rfl 14 [0, 9] [1, 2, 3, 4, 5, 6, 7, 8, 10, 11, 12, 13] rfl (by decide +kernel) rfl rfl rfl rfl (Nat.le_of_ble_eq_true rfl) (Nat.le_of_ble_eq_true rfl) (Nat.le_of_ble_eq_true rfl) (Nat.le_of_ble_eq_true rfl) (Nat.le_of_ble_eq_true rfl) dd_X9_cellTold_1.2.2.2.2.2.2.2.2.2.2.2.2.1 rfl (fun _ _ hp => hp.2) (fun v_16 hp_18 => ?_)
    obtain ⟨rfl, -⟩ := hp_18
    refine xr_st (st' := [.int x_15]) rfl ?_
    refine xr_if_eq (tgt := 84) (n := 73) C dd_X9_cellTold_1.2.2.2.2.2.2.2.2.2.2.2.2.2.1 rfl rfl (fun c_19 => ?_) (fun c_19 => ?_)
    · replace hR := yf_t c_19 hR
      refine xr_iconst (n := 85) (v := 0) C dd_X9_cellTold_2.2.2.2.2.2.1 rfl rfl ?_
      obtain rfl := Option.some.inj hR
      exact ret 0 ⟨rfl, rfl⟩ (Nat.le_of_ble_eq_true rfl) (Nat.le_of_ble_eq_true rfl) dd_X9_cellTold_2.2.2.2.2.2.2.1
    · replace hR := yf_f c_19 hR
      refine xr_aload_n (n := 74) (j := 0) C dd_X9_cellTold_1.2.2.2.2.2.2.2.2.2.2.2.2.2.2.1 rfl rfl ?_
      refine xr_get (n := 77) C 0 rfl rfl 5 (by decide) in_X9 u_1242 rfl (v := .ref gS) rfl dd_X9_cellTold_1.2.2.2.2.2.2.2.2.2.2.2.2.2.2.2.1 rfl ?_
      refine xr_iload_n (n := 78) (j := 1) C dd_X9_cellTold_2.1 rfl rfl ?_
      obtain ⟨g_20, hR⟩ := yf_g hR
      refine xr_aald (n := 79) C 7 0 rfl 3 rfl rfl g_20 rfl dd_X9_cellTold_2.2.1 rfl ?_
      refine xr_iload_n (n := 80) (j := 2) C dd_X9_cellTold_2.2.2.1 rfl rfl ?_
      obtain ⟨g_21, hR⟩ := yf_g hR
      refine xr_ialdg (n := 81) C 8 rfl i1.toNatClampNeg (ylt g_20) g_21 dd_X9_cellTold_2.2.2.2.1 rfl ?_
      refine xr_goto (tgt := 85) C dd_X9_cellTold_2.2.2.2.2.1 rfl ?_
      obtain rfl := Option.some.inj hR
      exact ret (gSG i1.toNatClampNeg i2.toNatClampNeg) ⟨rfl, rfl⟩ (Nat.le_of_ble_eq_true rfl) (Nat.le_of_ble_eq_true rfl) dd_X9_cellTold_2.2.2.2.2.2.2.1
  replace hR := yf_f c_14 hR
  refine xr_tableOut (tgt := 86) C dX9_cellTold_1 (ytab_out (fun k h1 h2 => by
    rcases (show k = 0 ∨ k = 1 ∨ k = 2 by omega) with rfl | rfl | rfl
    · exact c_1
    · exact c_11
    · exact c_14)) rfl ?_
  refine xr_aload_n (n := 87) (j := 0) C dd_X9_cellTold_2.2.2.2.2.2.2.2.1 rfl rfl ?_
  refine xr_iload_n (n := 88) (j := 1) C dd_X9_cellTold_2.2.2.2.2.2.2.2.2.1 rfl rfl ?_
  refine xr_iload_n (n := 89) (j := 2) C dd_X9_cellTold_2.2.2.2.2.2.2.2.2.2.1 rfl rfl ?_
  obtain ⟨x_22, hx_22, hR⟩ := yf_b hR
  refine xr_callVp (n := 92) (As := [.int i1, .int i2]) (rest := []) C (kX9_does_r l D cy (g := g) (gth := gth) (gw := gw) (gB := gB) (gK := gK) (gU := gU) (gS := gS) (gbe := gbe) (gwo := gwo) (gta := gta) (gn := gn) (glr := glr) (glc := glc) (gti := gti) (ggo := ggo) (gR := gR) (gch := gch) (gD := gD) (gnr := gnr) (gnk := gnk) (gnc := gnc) (gng := gng) (gns := gns) (gna := gna) (gnb := gnb) (i1 := i1) (i2 := i2) hx_22) mX9_does u_1524 u_1526 u_51 0 rfl rfl 14 [0, 9] [1, 2, 3, 4, 5, 6, 7, 8, 10, 11, 12, 13] rfl (by decide +kernel) rfl rfl rfl rfl (Nat.le_of_ble_eq_true rfl) (Nat.le_of_ble_eq_true rfl) (Nat.le_of_ble_eq_true rfl) (Nat.le_of_ble_eq_true rfl) (Nat.le_of_ble_eq_true rfl) dd_X9_cellTold_2.2.2.2.2.2.2.2.2.2.2.1 rfl (fun _ _ hp => hp.2) (fun v_23 hp_25 => ?_)
  obtain ⟨rfl, -⟩ := hp_25
  refine xr_st (st' := [.int x_22]) rfl ?_
  refine xr_if_eq (tgt := 102) (n := 95) C dd_X9_cellTold_2.2.2.2.2.2.2.2.2.2.2.2.1 rfl rfl (fun c_26 => ?_) (fun c_26 => ?_)
  · replace hR := yf_t c_26 hR
    refine xr_iconst (n := 103) (v := -1) C dd_X9_cellTold_2.2.2.2.2.2.2.2.2.2.2.2.2.2.2.2.1 rfl rfl ?_
    refine xr_goto (tgt := 132) C dd_X9_cellTold_3.1 rfl ?_
    obtain rfl := Option.some.inj hR
    exact ret (-1) ⟨rfl, rfl⟩ (Nat.le_of_ble_eq_true rfl) (Nat.le_of_ble_eq_true rfl) dd_X9_cellTold_3.2.2.2.2.2.2.2.2.2.2.2.2.2.2.2.1
  · replace hR := yf_f c_26 hR
    refine xr_aload_n (n := 96) (j := 0) C dd_X9_cellTold_2.2.2.2.2.2.2.2.2.2.2.2.2.1 rfl rfl ?_
    refine xr_get (n := 99) C 0 rfl rfl 13 (by decide) in_X9 u_1250 rfl (v := .int ggo) rfl dd_X9_cellTold_2.2.2.2.2.2.2.2.2.2.2.2.2.2.1 rfl ?_
    refine xr_if_ne (tgt := 106) (n := 102) C dd_X9_cellTold_2.2.2.2.2.2.2.2.2.2.2.2.2.2.2.1 rfl rfl (fun c_27 => ?_) (fun c_27 => ?_)
    · replace hR := yf_f c_27 hR
      refine xr_aload_n (n := 107) (j := 0) C dd_X9_cellTold_3.2.1 rfl rfl ?_
      refine xr_aload_n (n := 108) (j := 0) C dd_X9_cellTold_3.2.2.1 rfl rfl ?_
      refine xr_get (n := 111) C 0 rfl rfl 13 (by decide) in_X9 u_1250 rfl (v := .int ggo) rfl dd_X9_cellTold_3.2.2.2.1 rfl ?_
      refine xr_iconst (n := 112) (v := 1) C dd_X9_cellTold_3.2.2.2.2.1 rfl rfl ?_
      refine xr_isub (n := 113) C dd_X9_cellTold_3.2.2.2.2.2.1 rfl ?_
      refine xr_aload_n (n := 114) (j := 0) C dd_X9_cellTold_3.2.2.2.2.2.2.1 rfl rfl ?_
      refine xr_get (n := 117) C 0 rfl rfl 10 (by decide) in_X9 u_1247 rfl (v := .int glr) rfl dd_X9_cellTold_3.2.2.2.2.2.2.2.1 rfl ?_
      refine xr_iload_n (n := 118) (j := 1) C dd_X9_cellTold_3.2.2.2.2.2.2.2.2.1 rfl rfl ?_
      obtain ⟨x_28, hx_28, hR⟩ := yf_b hR
      refine xr_callSp (n := 121) (As := [.int glr, .int i1]) (rest := [.int (ggo - 1), .ref g]) C (kX9_placeIn l D cy (i1 := glr) (i2 := i1) hx_28) mX9_placeIn u_1528 u_1529 14 [] [0, 1, 2, 3, 4, 5, 6, 7, 8, 9, 10, 11, 12, 13] rfl (by decide +kernel) rfl rfl rfl rfl (Nat.le_of_ble_eq_true rfl) (Nat.le_of_ble_eq_true rfl) (Nat.le_of_ble_eq_true rfl) (Nat.le_of_ble_eq_true rfl) (Nat.le_of_ble_eq_true rfl) dd_X9_cellTold_3.2.2.2.2.2.2.2.2.2.1 rfl (fun _ _ hp => hp.2) (fun v_29 hp_31 => ?_)
      obtain ⟨rfl, -⟩ := hp_31
      refine xr_st (st' := [.int x_28, .int (ggo - 1), .ref g]) rfl ?_
      refine xr_aload_n (n := 122) (j := 0) C dd_X9_cellTold_3.2.2.2.2.2.2.2.2.2.2.1 rfl rfl ?_
      refine xr_get (n := 125) C 0 rfl rfl 11 (by decide) in_X9 u_1248 rfl (v := .int glc) rfl dd_X9_cellTold_3.2.2.2.2.2.2.2.2.2.2.2.1 rfl ?_
      refine xr_iload_n (n := 126) (j := 2) C dd_X9_cellTold_3.2.2.2.2.2.2.2.2.2.2.2.2.1 rfl rfl ?_
      obtain ⟨x_32, hx_32, hR⟩ := yf_b hR
      refine xr_callSp (n := 129) (As := [.int glc, .int i2]) (rest := [.int x_28, .int (ggo - 1), .ref g]) C (kX9_placeIn l D cy (i1 := glc) (i2 := i2) hx_32) mX9_placeIn u_1528 u_1529 14 [] [0, 1, 2, 3, 4, 5, 6, 7, 8, 9, 10, 11, 12, 13] rfl (by decide +kernel) rfl rfl rfl rfl (Nat.le_of_ble_eq_true rfl) (Nat.le_of_ble_eq_true rfl) (Nat.le_of_ble_eq_true rfl) (Nat.le_of_ble_eq_true rfl) (Nat.le_of_ble_eq_true rfl) dd_X9_cellTold_3.2.2.2.2.2.2.2.2.2.2.2.2.2.1 rfl (fun _ _ hp => hp.2) (fun v_33 hp_35 => ?_)
      obtain ⟨rfl, -⟩ := hp_35
      refine xr_st (st' := [.int x_32, .int x_28, .int (ggo - 1), .ref g]) rfl ?_
      obtain ⟨x_36, hx_36, hR⟩ := yf_b hR
      refine xr_callVp (n := 132) (As := [.int (ggo - 1), .int x_28, .int x_32]) (rest := []) C (kX9_stepTaken l D cy (g := g) (gth := gth) (gw := gw) (gB := gB) (gK := gK) (gU := gU) (gS := gS) (gbe := gbe) (gwo := gwo) (gta := gta) (gn := gn) (glr := glr) (glc := glc) (gti := gti) (ggo := ggo) (gR := gR) (gch := gch) (gD := gD) (gnr := gnr) (gnk := gnk) (gnc := gnc) (gng := gng) (gns := gns) (gna := gna) (gnb := gnb) (gnad := gnad) (gnan := gnan) (gnak := gnak) (gnaG := gnaG) (gnbd := gnbd) (gnbn := gnbn) (gnbk := gnbk) (gnbG := gnbG) (i1 := ggo - 1) (i2 := x_28) (i3 := x_32) hx_36) mX9_stepTaken u_1451 u_1453 u_42 0 rfl rfl 14 [0, 9, 10, 11, 12, 13] [1, 2, 3, 4, 5, 6, 7, 8] rfl (by decide +kernel) rfl rfl rfl rfl (Nat.le_of_ble_eq_true rfl) (Nat.le_of_ble_eq_true rfl) (Nat.le_of_ble_eq_true rfl) (Nat.le_of_ble_eq_true rfl) (Nat.le_of_ble_eq_true rfl) dd_X9_cellTold_3.2.2.2.2.2.2.2.2.2.2.2.2.2.2.1 rfl (fun _ _ hp => hp.2) (fun v_37 hp_39 => ?_)
      obtain ⟨rfl, -⟩ := hp_39
      refine xr_st (st' := [.int x_36]) rfl ?_
      obtain rfl := Option.some.inj hR
      exact ret x_36 ⟨rfl, rfl⟩ (Nat.le_of_ble_eq_true rfl) (Nat.le_of_ble_eq_true rfl) dd_X9_cellTold_3.2.2.2.2.2.2.2.2.2.2.2.2.2.2.2.1
    · replace hR := yf_t c_27 hR
      refine xr_iconst (n := 103) (v := -1) C dd_X9_cellTold_2.2.2.2.2.2.2.2.2.2.2.2.2.2.2.2.1 rfl rfl ?_
      refine xr_goto (tgt := 132) C dd_X9_cellTold_3.1 rfl ?_
      obtain rfl := Option.some.inj hR
      exact ret (-1) ⟨rfl, rfl⟩ (Nat.le_of_ble_eq_true rfl) (Nat.le_of_ble_eq_true rfl) dd_X9_cellTold_3.2.2.2.2.2.2.2.2.2.2.2.2.2.2.2.1
theorem dd_X9_ofCell_0 : dk_R cX9_ofCell [(0, .aload_n 0, 1), (1, .iload_n 1, 1), (2, .iload_n 2, 1), (3, .invokestatic 130, 3), (6, .iconst 1, 1), (7, .invokevirtual 79, 3), (10, .ifCond .ne 25, 3), (13, .aload_n 0, 1), (14, .iload_n 3, 1), (15, .iconst 0, 1), (16, .iconst 3, 1), (17, .invokestatic 75, 3), (20, .ifCond .ne 7, 3), (23, .iconst 1, 1), (24, .goto 4, 3), (27, .iconst 0, 1)] := dk_use _ _ (by decide +kernel)
theorem dd_X9_ofCell_1 : dk_R cX9_ofCell [(28, .iconst 2, 1), (29, .invokevirtual 67, 3), (32, .ifCond .eq 7, 3), (35, .iconst 0, 1), (36, .goto 10, 3), (39, .aload_n 0, 1), (40, .iload_n 1, 1), (41, .iload_n 2, 1), (42, .iload_n 3, 1), (43, .invokevirtual 250, 3), (46, .ireturn, 1)] := dk_use _ _ (by decide +kernel)
def fX9_ofCell_i (gBG : Nat → Nat → Int32) (gKG : Nat → Nat → Int32) (gUG : Nat → Nat → Int32) (i1 : Int32) (i2 : Int32) (i3 : Int32) : Option (Int32 × Int32) := ((fX9_isNoCell i1 i2).bind fun x_1 => ((fX9_start_i x_1 1).bind fun x_5 => (if x_5.1 = 0 then ((fX9_isIn i3 0 3).bind fun x_10 => ((((if x_10 = 0 then some 1 else some 0) : Option (Int32))).bind fun r_15 => ((fX9_refuse_i x_5.2 r_15 2).bind fun x_16 => (if x_16.1 = 0 then ((fX9_cellTold_i gBG gKG gUG i1 i2 i3).bind fun x_21 => some (x_21, x_16.2)) else some (0, x_16.2))))) else some (0, x_5.2))))
abbrev hX9_ofCell : Cond := .code yX9_ofCell cX9_ofCell 4 (some .int)
theorem mX9_ofCell : yM yX9_ofCell hX9_ofCell 3 := ⟨u_1519, u_64, by decide +kernel, by decide +kernel, by decide +kernel⟩
set_option maxHeartbeats 4000000 in
set_option maxRecDepth 100000 in
theorem kX9_ofCell_i (l : Launch) (D : va_G) (cy : Nat → ClassId) (g : Nat) (gth : Int32) (gw : Nat) (gB : Nat) (gK : Nat) (gU : Nat) (gS : Nat) (gbe : Int32) (gwo : Int32) (gta : Int64) (glr : Int32) (glc : Int32) (gti : Int32) (ggo : Int32) (gR : Nat) (gch : Int32) (gD : Nat) (gBd : Nat → Nat) (gBG : Nat → Nat → Int32) (gKd : Nat → Nat) (gKG : Nat → Nat → Int32) (gUd : Nat → Nat) (gUG : Nat → Nat → Int32) (gSd : Nat → Nat) (gSG : Nat → Nat → Int32) (i1 : Int32) (i2 : Int32) (i3 : Int32) {res : Int32 × Int32} (hR : fX9_ofCell_i gBG gKG gUG i1 i2 i3 = some res) : YM l D cy yX9_ofCell hX9_ofCell 6 0 0 [.ref g, .int i1, .int i2, .int i3] [[(g, .inr (11, [.int gth, .ref gw, .ref gB, .ref gK, .ref gU, .ref gS, .int gbe, .int gwo, .long gta, .null, .int glr, .int glc, .int gti, .int ggo, .ref gR, .int gch, .ref gD]))], [(gB, .inl (cy 4, 5, .inr (.inr (.inr (.inr (yad gBd))))))], xg_rows gBd 5 (cy 2) 5 gBG, [(gK, .inl (cy 4, 5, .inr (.inr (.inr (.inr (yad gKd))))))], xg_rows gKd 5 (cy 2) 5 gKG, [(gU, .inl (cy 3, 5, .inr (.inr (.inr (.inr (yad gUd))))))], xg_rows gUd 5 (cy 1) 5 gUG, [(gS, .inl (cy 3, 5, .inr (.inr (.inr (.inr (yad gSd))))))], xg_rows gSd 5 (cy 1) 5 gSG] (fun v u => v = some (.int res.1) ∧ u = [[(g, .inr (11, [.int res.2, .ref gw, .ref gB, .ref gK, .ref gU, .ref gS, .int gbe, .int gwo, .long gta, .null, .int glr, .int glc, .int gti, .int ggo, .ref gR, .int gch, .ref gD]))], [(gB, .inl (cy 4, 5, .inr (.inr (.inr (.inr (yad gBd))))))], xg_rows gBd 5 (cy 2) 5 gBG, [(gK, .inl (cy 4, 5, .inr (.inr (.inr (.inr (yad gKd))))))], xg_rows gKd 5 (cy 2) 5 gKG, [(gU, .inl (cy 3, 5, .inr (.inr (.inr (.inr (yad gUd))))))], xg_rows gUd 5 (cy 1) 5 gUG, [(gS, .inl (cy 3, 5, .inr (.inr (.inr (.inr (yad gSd))))))], xg_rows gSd 5 (cy 1) 5 gSG]) := by
  unfold fX9_ofCell_i at hR
  refine YM.ofI (cc := cX9_ofCell) (maxL := 4) (ret := (some .int)) (by decide +kernel) rfl (Nat.le_of_ble_eq_true rfl) [(0, .ref g), (1, .int i1), (2, .int i2), (3, .int i3)] rfl rfl (fun p e s m args below meth c A H0 Q C hnm ret => ?_)
  refine xr_aload_n (n := 1) (j := 0) C dd_X9_ofCell_0.1 rfl rfl ?_
  refine xr_iload_n (n := 2) (j := 1) C dd_X9_ofCell_0.2.1 rfl rfl ?_
  refine xr_iload_n (n := 3) (j := 2) C dd_X9_ofCell_0.2.2.1 rfl rfl ?_
  obtain ⟨x_1, hx_1, hR⟩ := yf_b hR
  refine xr_callSp (n := 6) (As := [.int i1, .int i2]) (rest := [.ref g]) C (kX9_isNoCell l D cy (i1 := i1) (i2 := i2) hx_1) mX9_isNoCell u_1335 u_1336 9 [] [0, 1, 2, 3, 4, 5, 6, 7, 8] rfl (by decide +kernel) rfl rfl rfl rfl (Nat.le_of_ble_eq_true rfl) (Nat.le_of_ble_eq_true rfl) (Nat.le_of_ble_eq_true rfl) (Nat.le_of_ble_eq_true rfl) (Nat.le_of_ble_eq_true rfl) dd_X9_ofCell_0.2.2.2.1 rfl (fun _ _ hp => hp.2) (fun v_2 hp_4 => ?_)
  obtain ⟨rfl, -⟩ := hp_4
  refine xr_st (st' := [.int x_1, .ref g]) rfl ?_
  refine xr_iconst (n := 7) (v := 1) C dd_X9_ofCell_0.2.2.2.2.1 rfl rfl ?_
  obtain ⟨x_5, hx_5, hR⟩ := yf_b hR
  refine xr_callV (n := 10) (As := [.int x_1, .int 1]) (rest := []) C (kX9_start_i l D cy (g := g) (gth := gth) (gw := gw) (gB := gB) (gK := gK) (gU := gU) (gS := gS) (gbe := gbe) (gwo := gwo) (gta := gta) (glr := glr) (glc := glc) (gti := gti) (ggo := ggo) (gR := gR) (gch := gch) (gD := gD) (i1 := x_1) (i2 := 1) hx_5) mX9_start u_1301 u_1303 u_29 0 rfl rfl 9 [0] [1, 2, 3, 4, 5, 6, 7, 8] rfl (by decide +kernel) rfl rfl rfl rfl (Nat.le_of_ble_eq_true rfl) (Nat.le_of_ble_eq_true rfl) (Nat.le_of_ble_eq_true rfl) (Nat.le_of_ble_eq_true rfl) (Nat.le_of_ble_eq_true rfl) dd_X9_ofCell_0.2.2.2.2.2.1 rfl (fun v_6 u_7 hp_8 => ?_)
  obtain ⟨rfl, rfl⟩ := hp_8
  refine xr_perm C 9 [0, 1, 2, 3, 4, 5, 6, 7, 8] [] [[(g, .inr (11, [.int x_5.2, .ref gw, .ref gB, .ref gK, .ref gU, .ref gS, .int gbe, .int gwo, .long gta, .null, .int glr, .int glc, .int gti, .int ggo, .ref gR, .int gch, .ref gD]))], [(gB, .inl (cy 4, 5, .inr (.inr (.inr (.inr (yad gBd))))))], xg_rows gBd 5 (cy 2) 5 gBG, [(gK, .inl (cy 4, 5, .inr (.inr (.inr (.inr (yad gKd))))))], xg_rows gKd 5 (cy 2) 5 gKG, [(gU, .inl (cy 3, 5, .inr (.inr (.inr (.inr (yad gUd))))))], xg_rows gUd 5 (cy 1) 5 gUG, [(gS, .inl (cy 3, 5, .inr (.inr (.inr (.inr (yad gSd))))))], xg_rows gSd 5 (cy 1) 5 gSG] rfl (by decide +kernel) rfl ?_
  refine xr_st (st' := [.int x_5.1]) rfl ?_
  refine xr_if_ne (tgt := 35) (n := 13) C dd_X9_ofCell_0.2.2.2.2.2.2.1 rfl rfl (fun c_9 => ?_) (fun c_9 => ?_)
  · replace hR := yf_f c_9 hR
    refine xr_iconst (n := 36) (v := 0) C dd_X9_ofCell_1.2.2.2.1 rfl rfl ?_
    refine xr_goto (tgt := 46) C dd_X9_ofCell_1.2.2.2.2.1 rfl ?_
    obtain rfl := Option.some.inj hR
    exact ret 0 ⟨rfl, rfl⟩ (Nat.le_of_ble_eq_true rfl) (Nat.le_of_ble_eq_true rfl) dd_X9_ofCell_1.2.2.2.2.2.2.2.2.2.2.1
  · replace hR := yf_t c_9 hR
    refine xr_aload_n (n := 14) (j := 0) C dd_X9_ofCell_0.2.2.2.2.2.2.2.1 rfl rfl ?_
    refine xr_iload_n (n := 15) (j := 3) C dd_X9_ofCell_0.2.2.2.2.2.2.2.2.1 rfl rfl ?_
    refine xr_iconst (n := 16) (v := 0) C dd_X9_ofCell_0.2.2.2.2.2.2.2.2.2.1 rfl rfl ?_
    refine xr_iconst (n := 17) (v := 3) C dd_X9_ofCell_0.2.2.2.2.2.2.2.2.2.2.1 rfl rfl ?_
    obtain ⟨x_10, hx_10, hR⟩ := yf_b hR
    refine xr_callSp (n := 20) (As := [.int i3, .int 0, .int 3]) (rest := [.ref g]) C (kX9_isIn l D cy (i1 := i3) (i2 := 0) (i3 := 3) hx_10) mX9_isIn u_1298 u_1299 9 [] [0, 1, 2, 3, 4, 5, 6, 7, 8] rfl (by decide +kernel) rfl rfl rfl rfl (Nat.le_of_ble_eq_true rfl) (Nat.le_of_ble_eq_true rfl) (Nat.le_of_ble_eq_true rfl) (Nat.le_of_ble_eq_true rfl) (Nat.le_of_ble_eq_true rfl) dd_X9_ofCell_0.2.2.2.2.2.2.2.2.2.2.2.1 rfl (fun _ _ hp => hp.2) (fun v_11 hp_13 => ?_)
    obtain ⟨rfl, -⟩ := hp_13
    refine xr_st (st' := [.int x_10, .ref g]) rfl ?_
    obtain ⟨r_15, hE_15, hR⟩ := yf_b hR
    have J_15 : X p l e (yR 6 0 0) s m args below meth c D A H0 4 Q [[(g, .inr (11, [.int x_5.2, .ref gw, .ref gB, .ref gK, .ref gU, .ref gS, .int gbe, .int gwo, .long gta, .null, .int glr, .int glc, .int gti, .int ggo, .ref gR, .int gch, .ref gD]))], [(gB, .inl (cy 4, 5, .inr (.inr (.inr (.inr (yad gBd))))))], xg_rows gBd 5 (cy 2) 5 gBG, [(gK, .inl (cy 4, 5, .inr (.inr (.inr (.inr (yad gKd))))))], xg_rows gKd 5 (cy 2) 5 gKG, [(gU, .inl (cy 3, 5, .inr (.inr (.inr (.inr (yad gUd))))))], xg_rows gUd 5 (cy 1) 5 gUG, [(gS, .inl (cy 3, 5, .inr (.inr (.inr (.inr (yad gSd))))))], xg_rows gSd 5 (cy 1) 5 gSG] 0 0 [(0, .ref g), (1, .int i1), (2, .int i2), (3, .int i3)] 28 [.int r_15, .ref g] := by
      refine xr_iconst (n := 29) (v := 2) C dd_X9_ofCell_1.1 rfl rfl ?_
      obtain ⟨x_16, hx_16, hR⟩ := yf_b hR
      refine xr_callV (n := 32) (As := [.int r_15, .int 2]) (rest := []) C (kX9_refuse_i l D cy (g := g) (gth := x_5.2) (gw := gw) (gB := gB) (gK := gK) (gU := gU) (gS := gS) (gbe := gbe) (gwo := gwo) (gta := gta) (glr := glr) (glc := glc) (gti := gti) (ggo := ggo) (gR := gR) (gch := gch) (gD := gD) (i1 := r_15) (i2 := 2) hx_16) mX9_refuse u_1305 u_1307 u_30 0 rfl rfl 9 [0] [1, 2, 3, 4, 5, 6, 7, 8] rfl (by decide +kernel) rfl rfl rfl rfl (Nat.le_of_ble_eq_true rfl) (Nat.le_of_ble_eq_true rfl) (Nat.le_of_ble_eq_true rfl) (Nat.le_of_ble_eq_true rfl) (Nat.le_of_ble_eq_true rfl) dd_X9_ofCell_1.2.1 rfl (fun v_17 u_18 hp_19 => ?_)
      obtain ⟨rfl, rfl⟩ := hp_19
      refine xr_perm C 9 [0, 1, 2, 3, 4, 5, 6, 7, 8] [] [[(g, .inr (11, [.int x_16.2, .ref gw, .ref gB, .ref gK, .ref gU, .ref gS, .int gbe, .int gwo, .long gta, .null, .int glr, .int glc, .int gti, .int ggo, .ref gR, .int gch, .ref gD]))], [(gB, .inl (cy 4, 5, .inr (.inr (.inr (.inr (yad gBd))))))], xg_rows gBd 5 (cy 2) 5 gBG, [(gK, .inl (cy 4, 5, .inr (.inr (.inr (.inr (yad gKd))))))], xg_rows gKd 5 (cy 2) 5 gKG, [(gU, .inl (cy 3, 5, .inr (.inr (.inr (.inr (yad gUd))))))], xg_rows gUd 5 (cy 1) 5 gUG, [(gS, .inl (cy 3, 5, .inr (.inr (.inr (.inr (yad gSd))))))], xg_rows gSd 5 (cy 1) 5 gSG] rfl (by decide +kernel) rfl ?_
      refine xr_st (st' := [.int x_16.1]) rfl ?_
      refine xr_if_eq (tgt := 39) (n := 35) C dd_X9_ofCell_1.2.2.1 rfl rfl (fun c_20 => ?_) (fun c_20 => ?_)
      · replace hR := yf_t c_20 hR
        refine xr_aload_n (n := 40) (j := 0) C dd_X9_ofCell_1.2.2.2.2.2.1 rfl rfl ?_
        refine xr_iload_n (n := 41) (j := 1) C dd_X9_ofCell_1.2.2.2.2.2.2.1 rfl rfl ?_
        refine xr_iload_n (n := 42) (j := 2) C dd_X9_ofCell_1.2.2.2.2.2.2.2.1 rfl rfl ?_
        refine xr_iload_n (n := 43) (j := 3) C dd_X9_ofCell_1.2.2.2.2.2.2.2.2.1 rfl rfl ?_
        obtain ⟨x_21, hx_21, hR⟩ := yf_b hR
        refine xr_callVp (n := 46) (As := [.int i1, .int i2, .int i3]) (rest := []) C (kX9_cellTold_i l D cy (g := g) (gth := x_16.2) (gw := gw) (gB := gB) (gK := gK) (gU := gU) (gS := gS) (gbe := gbe) (gwo := gwo) (gta := gta) (glr := glr) (glc := glc) (gti := gti) (ggo := ggo) (gR := gR) (gch := gch) (gD := gD) (gBd := gBd) (gBG := gBG) (gKd := gKd) (gKG := gKG) (gUd := gUd) (gUG := gUG) (gSd := gSd) (gSG := gSG) (i1 := i1) (i2 := i2) (i3 := i3) hx_21) mX9_cellTold u_1520 u_1522 u_50 0 rfl rfl 9 [0, 1, 2, 3, 4, 5, 6, 7, 8] [] rfl (by decide +kernel) rfl rfl rfl rfl (Nat.le_of_ble_eq_true rfl) (Nat.le_of_ble_eq_true rfl) (Nat.le_of_ble_eq_true rfl) (Nat.le_of_ble_eq_true rfl) (Nat.le_of_ble_eq_true rfl) dd_X9_ofCell_1.2.2.2.2.2.2.2.2.2.1 rfl (fun _ _ hp => hp.2) (fun v_22 hp_24 => ?_)
        obtain ⟨rfl, -⟩ := hp_24
        refine xr_st (st' := [.int x_21]) rfl ?_
        obtain rfl := Option.some.inj hR
        exact ret x_21 ⟨rfl, rfl⟩ (Nat.le_of_ble_eq_true rfl) (Nat.le_of_ble_eq_true rfl) dd_X9_ofCell_1.2.2.2.2.2.2.2.2.2.2.1
      · replace hR := yf_f c_20 hR
        refine xr_iconst (n := 36) (v := 0) C dd_X9_ofCell_1.2.2.2.1 rfl rfl ?_
        refine xr_goto (tgt := 46) C dd_X9_ofCell_1.2.2.2.2.1 rfl ?_
        obtain rfl := Option.some.inj hR
        exact ret 0 ⟨rfl, rfl⟩ (Nat.le_of_ble_eq_true rfl) (Nat.le_of_ble_eq_true rfl) dd_X9_ofCell_1.2.2.2.2.2.2.2.2.2.2.1
    refine xr_if_ne (tgt := 27) (n := 23) C dd_X9_ofCell_0.2.2.2.2.2.2.2.2.2.2.2.2.1 rfl rfl (fun c_25 => ?_) (fun c_25 => ?_)
    · replace hE_15 := yf_f c_25 hE_15
      refine xr_iconst (n := 28) (v := 0) C dd_X9_ofCell_0.2.2.2.2.2.2.2.2.2.2.2.2.2.2.2.1 rfl rfl ?_
      have e_26 := Option.some.inj hE_15
      subst e_26
      exact J_15
    · replace hE_15 := yf_t c_25 hE_15
      refine xr_iconst (n := 24) (v := 1) C dd_X9_ofCell_0.2.2.2.2.2.2.2.2.2.2.2.2.2.1 rfl rfl ?_
      refine xr_goto (tgt := 28) C dd_X9_ofCell_0.2.2.2.2.2.2.2.2.2.2.2.2.2.2.1 rfl ?_
      have e_27 := Option.some.inj hE_15
      subst e_27
      exact J_15
def fX9_ofCell_r (glr : Int32) (glc : Int32) (gti : Int32) (ggo : Int32) (gBG : Nat → Nat → Int32) (gKG : Nat → Nat → Int32) (gUG : Nat → Nat → Int32) (gSG : Nat → Nat → Int32) (gnr : Int32) (gnk : Int32) (gnc : Int32) (gng : Int32) (gns : Int32) (gnan : Nat) (gnak : Nat) (gnaG : Nat → Nat → Int32) (gnbn : Nat) (gnbk : Nat) (gnbG : Nat → Nat → Int32) (i1 : Int32) (i2 : Int32) (i3 : Int32) : Option (Int32 × Int32) := ((fX9_isNoCell i1 i2).bind fun x_1 => ((fX9_start_r x_1 1).bind fun x_5 => (if x_5.1 = 0 then ((fX9_isIn i3 0 3).bind fun x_10 => ((((if x_10 = 0 then some 1 else some 0) : Option (Int32))).bind fun r_15 => ((fX9_refuse_r x_5.2 r_15 2).bind fun x_16 => (if x_16.1 = 0 then ((fX9_cellTold_r glr glc gti ggo gBG gKG gUG gSG gnr gnk gnc gng gns gnan gnak gnaG gnbn gnbk gnbG i1 i2 i3).bind fun x_21 => some (x_21, x_16.2)) else some (0, x_16.2))))) else some (0, x_5.2))))
set_option maxHeartbeats 4000000 in
set_option maxRecDepth 100000 in
theorem kX9_ofCell_r (l : Launch) (D : va_G) (cy : Nat → ClassId) (g : Nat) (gth : Int32) (gw : Nat) (gB : Nat) (gK : Nat) (gU : Nat) (gS : Nat) (gbe : Int32) (gwo : Int32) (gta : Int64) (gn : Nat) (glr : Int32) (glc : Int32) (gti : Int32) (ggo : Int32) (gR : Nat) (gch : Int32) (gD : Nat) (gBd : Nat → Nat) (gBG : Nat → Nat → Int32) (gKd : Nat → Nat) (gKG : Nat → Nat → Int32) (gUd : Nat → Nat) (gUG : Nat → Nat → Int32) (gSd : Nat → Nat) (gSG : Nat → Nat → Int32) (gnr : Int32) (gnk : Int32) (gnc : Int32) (gng : Int32) (gns : Int32) (gna : Nat) (gnb : Nat) (gnad : Nat → Nat) (gnan : Nat) (gnak : Nat) (gnaG : Nat → Nat → Int32) (gnbd : Nat → Nat) (gnbn : Nat) (gnbk : Nat) (gnbG : Nat → Nat → Int32) (i1 : Int32) (i2 : Int32) (i3 : Int32) {res : Int32 × Int32} (hR : fX9_ofCell_r glr glc gti ggo gBG gKG gUG gSG gnr gnk gnc gng gns gnan gnak gnaG gnbn gnbk gnbG i1 i2 i3 = some res) : YM l D cy yX9_ofCell hX9_ofCell 6 0 0 [.ref g, .int i1, .int i2, .int i3] [[(g, .inr (11, [.int gth, .ref gw, .ref gB, .ref gK, .ref gU, .ref gS, .int gbe, .int gwo, .long gta, .ref gn, .int glr, .int glc, .int gti, .int ggo, .ref gR, .int gch, .ref gD]))], [(gB, .inl (cy 4, 5, .inr (.inr (.inr (.inr (yad gBd))))))], xg_rows gBd 5 (cy 2) 5 gBG, [(gK, .inl (cy 4, 5, .inr (.inr (.inr (.inr (yad gKd))))))], xg_rows gKd 5 (cy 2) 5 gKG, [(gU, .inl (cy 3, 5, .inr (.inr (.inr (.inr (yad gUd))))))], xg_rows gUd 5 (cy 1) 5 gUG, [(gS, .inl (cy 3, 5, .inr (.inr (.inr (.inr (yad gSd))))))], xg_rows gSd 5 (cy 1) 5 gSG, [(gn, .inr (10, [.int gnr, .int gnk, .int gnc, .int gng, .int gns, .ref gna, .ref gnb]))], [(gna, .inl (cy 3, gnan, .inr (.inr (.inr (.inr (yad gnad))))))], xg_rows gnad gnan (cy 1) gnak gnaG, [(gnb, .inl (cy 3, gnbn, .inr (.inr (.inr (.inr (yad gnbd))))))], xg_rows gnbd gnbn (cy 1) gnbk gnbG] (fun v u => v = some (.int res.1) ∧ u = [[(g, .inr (11, [.int res.2, .ref gw, .ref gB, .ref gK, .ref gU, .ref gS, .int gbe, .int gwo, .long gta, .ref gn, .int glr, .int glc, .int gti, .int ggo, .ref gR, .int gch, .ref gD]))], [(gB, .inl (cy 4, 5, .inr (.inr (.inr (.inr (yad gBd))))))], xg_rows gBd 5 (cy 2) 5 gBG, [(gK, .inl (cy 4, 5, .inr (.inr (.inr (.inr (yad gKd))))))], xg_rows gKd 5 (cy 2) 5 gKG, [(gU, .inl (cy 3, 5, .inr (.inr (.inr (.inr (yad gUd))))))], xg_rows gUd 5 (cy 1) 5 gUG, [(gS, .inl (cy 3, 5, .inr (.inr (.inr (.inr (yad gSd))))))], xg_rows gSd 5 (cy 1) 5 gSG, [(gn, .inr (10, [.int gnr, .int gnk, .int gnc, .int gng, .int gns, .ref gna, .ref gnb]))], [(gna, .inl (cy 3, gnan, .inr (.inr (.inr (.inr (yad gnad))))))], xg_rows gnad gnan (cy 1) gnak gnaG, [(gnb, .inl (cy 3, gnbn, .inr (.inr (.inr (.inr (yad gnbd))))))], xg_rows gnbd gnbn (cy 1) gnbk gnbG]) := by
  unfold fX9_ofCell_r at hR
  refine YM.ofI (cc := cX9_ofCell) (maxL := 4) (ret := (some .int)) (by decide +kernel) rfl (Nat.le_of_ble_eq_true rfl) [(0, .ref g), (1, .int i1), (2, .int i2), (3, .int i3)] rfl rfl (fun p e s m args below meth c A H0 Q C hnm ret => ?_)
  refine xr_aload_n (n := 1) (j := 0) C dd_X9_ofCell_0.1 rfl rfl ?_
  refine xr_iload_n (n := 2) (j := 1) C dd_X9_ofCell_0.2.1 rfl rfl ?_
  refine xr_iload_n (n := 3) (j := 2) C dd_X9_ofCell_0.2.2.1 rfl rfl ?_
  obtain ⟨x_1, hx_1, hR⟩ := yf_b hR
  refine xr_callSp (n := 6) (As := [.int i1, .int i2]) (rest := [.ref g]) C (kX9_isNoCell l D cy (i1 := i1) (i2 := i2) hx_1) mX9_isNoCell u_1335 u_1336 14 [] [0, 1, 2, 3, 4, 5, 6, 7, 8, 9, 10, 11, 12, 13] rfl (by decide +kernel) rfl rfl rfl rfl (Nat.le_of_ble_eq_true rfl) (Nat.le_of_ble_eq_true rfl) (Nat.le_of_ble_eq_true rfl) (Nat.le_of_ble_eq_true rfl) (Nat.le_of_ble_eq_true rfl) dd_X9_ofCell_0.2.2.2.1 rfl (fun _ _ hp => hp.2) (fun v_2 hp_4 => ?_)
  obtain ⟨rfl, -⟩ := hp_4
  refine xr_st (st' := [.int x_1, .ref g]) rfl ?_
  refine xr_iconst (n := 7) (v := 1) C dd_X9_ofCell_0.2.2.2.2.1 rfl rfl ?_
  obtain ⟨x_5, hx_5, hR⟩ := yf_b hR
  refine xr_callV (n := 10) (As := [.int x_1, .int 1]) (rest := []) C (kX9_start_r l D cy (g := g) (gth := gth) (gw := gw) (gB := gB) (gK := gK) (gU := gU) (gS := gS) (gbe := gbe) (gwo := gwo) (gta := gta) (gn := gn) (glr := glr) (glc := glc) (gti := gti) (ggo := ggo) (gR := gR) (gch := gch) (gD := gD) (i1 := x_1) (i2 := 1) hx_5) mX9_start u_1301 u_1303 u_29 0 rfl rfl 14 [0] [1, 2, 3, 4, 5, 6, 7, 8, 9, 10, 11, 12, 13] rfl (by decide +kernel) rfl rfl rfl rfl (Nat.le_of_ble_eq_true rfl) (Nat.le_of_ble_eq_true rfl) (Nat.le_of_ble_eq_true rfl) (Nat.le_of_ble_eq_true rfl) (Nat.le_of_ble_eq_true rfl) dd_X9_ofCell_0.2.2.2.2.2.1 rfl (fun v_6 u_7 hp_8 => ?_)
  obtain ⟨rfl, rfl⟩ := hp_8
  refine xr_perm C 14 [0, 1, 2, 3, 4, 5, 6, 7, 8, 9, 10, 11, 12, 13] [] [[(g, .inr (11, [.int x_5.2, .ref gw, .ref gB, .ref gK, .ref gU, .ref gS, .int gbe, .int gwo, .long gta, .ref gn, .int glr, .int glc, .int gti, .int ggo, .ref gR, .int gch, .ref gD]))], [(gB, .inl (cy 4, 5, .inr (.inr (.inr (.inr (yad gBd))))))], xg_rows gBd 5 (cy 2) 5 gBG, [(gK, .inl (cy 4, 5, .inr (.inr (.inr (.inr (yad gKd))))))], xg_rows gKd 5 (cy 2) 5 gKG, [(gU, .inl (cy 3, 5, .inr (.inr (.inr (.inr (yad gUd))))))], xg_rows gUd 5 (cy 1) 5 gUG, [(gS, .inl (cy 3, 5, .inr (.inr (.inr (.inr (yad gSd))))))], xg_rows gSd 5 (cy 1) 5 gSG, [(gn, .inr (10, [.int gnr, .int gnk, .int gnc, .int gng, .int gns, .ref gna, .ref gnb]))], [(gna, .inl (cy 3, gnan, .inr (.inr (.inr (.inr (yad gnad))))))], xg_rows gnad gnan (cy 1) gnak gnaG, [(gnb, .inl (cy 3, gnbn, .inr (.inr (.inr (.inr (yad gnbd))))))], xg_rows gnbd gnbn (cy 1) gnbk gnbG] rfl (by decide +kernel) rfl ?_
  refine xr_st (st' := [.int x_5.1]) rfl ?_
  refine xr_if_ne (tgt := 35) (n := 13) C dd_X9_ofCell_0.2.2.2.2.2.2.1 rfl rfl (fun c_9 => ?_) (fun c_9 => ?_)
  · replace hR := yf_f c_9 hR
    refine xr_iconst (n := 36) (v := 0) C dd_X9_ofCell_1.2.2.2.1 rfl rfl ?_
    refine xr_goto (tgt := 46) C dd_X9_ofCell_1.2.2.2.2.1 rfl ?_
    obtain rfl := Option.some.inj hR
    exact ret 0 ⟨rfl, rfl⟩ (Nat.le_of_ble_eq_true rfl) (Nat.le_of_ble_eq_true rfl) dd_X9_ofCell_1.2.2.2.2.2.2.2.2.2.2.1
  · replace hR := yf_t c_9 hR
    refine xr_aload_n (n := 14) (j := 0) C dd_X9_ofCell_0.2.2.2.2.2.2.2.1 rfl rfl ?_
    refine xr_iload_n (n := 15) (j := 3) C dd_X9_ofCell_0.2.2.2.2.2.2.2.2.1 rfl rfl ?_
    refine xr_iconst (n := 16) (v := 0) C dd_X9_ofCell_0.2.2.2.2.2.2.2.2.2.1 rfl rfl ?_
    refine xr_iconst (n := 17) (v := 3) C dd_X9_ofCell_0.2.2.2.2.2.2.2.2.2.2.1 rfl rfl ?_
    obtain ⟨x_10, hx_10, hR⟩ := yf_b hR
    refine xr_callSp (n := 20) (As := [.int i3, .int 0, .int 3]) (rest := [.ref g]) C (kX9_isIn l D cy (i1 := i3) (i2 := 0) (i3 := 3) hx_10) mX9_isIn u_1298 u_1299 14 [] [0, 1, 2, 3, 4, 5, 6, 7, 8, 9, 10, 11, 12, 13] rfl (by decide +kernel) rfl rfl rfl rfl (Nat.le_of_ble_eq_true rfl) (Nat.le_of_ble_eq_true rfl) (Nat.le_of_ble_eq_true rfl) (Nat.le_of_ble_eq_true rfl) (Nat.le_of_ble_eq_true rfl) dd_X9_ofCell_0.2.2.2.2.2.2.2.2.2.2.2.1 rfl (fun _ _ hp => hp.2) (fun v_11 hp_13 => ?_)
    obtain ⟨rfl, -⟩ := hp_13
    refine xr_st (st' := [.int x_10, .ref g]) rfl ?_
    obtain ⟨r_15, hE_15, hR⟩ := yf_b hR
    have J_15 : X p l e (yR 6 0 0) s m args below meth c D A H0 4 Q [[(g, .inr (11, [.int x_5.2, .ref gw, .ref gB, .ref gK, .ref gU, .ref gS, .int gbe, .int gwo, .long gta, .ref gn, .int glr, .int glc, .int gti, .int ggo, .ref gR, .int gch, .ref gD]))], [(gB, .inl (cy 4, 5, .inr (.inr (.inr (.inr (yad gBd))))))], xg_rows gBd 5 (cy 2) 5 gBG, [(gK, .inl (cy 4, 5, .inr (.inr (.inr (.inr (yad gKd))))))], xg_rows gKd 5 (cy 2) 5 gKG, [(gU, .inl (cy 3, 5, .inr (.inr (.inr (.inr (yad gUd))))))], xg_rows gUd 5 (cy 1) 5 gUG, [(gS, .inl (cy 3, 5, .inr (.inr (.inr (.inr (yad gSd))))))], xg_rows gSd 5 (cy 1) 5 gSG, [(gn, .inr (10, [.int gnr, .int gnk, .int gnc, .int gng, .int gns, .ref gna, .ref gnb]))], [(gna, .inl (cy 3, gnan, .inr (.inr (.inr (.inr (yad gnad))))))], xg_rows gnad gnan (cy 1) gnak gnaG, [(gnb, .inl (cy 3, gnbn, .inr (.inr (.inr (.inr (yad gnbd))))))], xg_rows gnbd gnbn (cy 1) gnbk gnbG] 0 0 [(0, .ref g), (1, .int i1), (2, .int i2), (3, .int i3)] 28 [.int r_15, .ref g] := by
      refine xr_iconst (n := 29) (v := 2) C dd_X9_ofCell_1.1 rfl rfl ?_
      obtain ⟨x_16, hx_16, hR⟩ := yf_b hR
      refine xr_callV (n := 32) (As := [.int r_15, .int 2]) (rest := []) C (kX9_refuse_r l D cy (g := g) (gth := x_5.2) (gw := gw) (gB := gB) (gK := gK) (gU := gU) (gS := gS) (gbe := gbe) (gwo := gwo) (gta := gta) (gn := gn) (glr := glr) (glc := glc) (gti := gti) (ggo := ggo) (gR := gR) (gch := gch) (gD := gD) (i1 := r_15) (i2 := 2) hx_16) mX9_refuse u_1305 u_1307 u_30 0 rfl rfl 14 [0] [1, 2, 3, 4, 5, 6, 7, 8, 9, 10, 11, 12, 13] rfl (by decide +kernel) rfl rfl rfl rfl (Nat.le_of_ble_eq_true rfl) (Nat.le_of_ble_eq_true rfl) (Nat.le_of_ble_eq_true rfl) (Nat.le_of_ble_eq_true rfl) (Nat.le_of_ble_eq_true rfl) dd_X9_ofCell_1.2.1 rfl (fun v_17 u_18 hp_19 => ?_)
      obtain ⟨rfl, rfl⟩ := hp_19
      refine xr_perm C 14 [0, 1, 2, 3, 4, 5, 6, 7, 8, 9, 10, 11, 12, 13] [] [[(g, .inr (11, [.int x_16.2, .ref gw, .ref gB, .ref gK, .ref gU, .ref gS, .int gbe, .int gwo, .long gta, .ref gn, .int glr, .int glc, .int gti, .int ggo, .ref gR, .int gch, .ref gD]))], [(gB, .inl (cy 4, 5, .inr (.inr (.inr (.inr (yad gBd))))))], xg_rows gBd 5 (cy 2) 5 gBG, [(gK, .inl (cy 4, 5, .inr (.inr (.inr (.inr (yad gKd))))))], xg_rows gKd 5 (cy 2) 5 gKG, [(gU, .inl (cy 3, 5, .inr (.inr (.inr (.inr (yad gUd))))))], xg_rows gUd 5 (cy 1) 5 gUG, [(gS, .inl (cy 3, 5, .inr (.inr (.inr (.inr (yad gSd))))))], xg_rows gSd 5 (cy 1) 5 gSG, [(gn, .inr (10, [.int gnr, .int gnk, .int gnc, .int gng, .int gns, .ref gna, .ref gnb]))], [(gna, .inl (cy 3, gnan, .inr (.inr (.inr (.inr (yad gnad))))))], xg_rows gnad gnan (cy 1) gnak gnaG, [(gnb, .inl (cy 3, gnbn, .inr (.inr (.inr (.inr (yad gnbd))))))], xg_rows gnbd gnbn (cy 1) gnbk gnbG] rfl (by decide +kernel) rfl ?_
      refine xr_st (st' := [.int x_16.1]) rfl ?_
      refine xr_if_eq (tgt := 39) (n := 35) C dd_X9_ofCell_1.2.2.1 rfl rfl (fun c_20 => ?_) (fun c_20 => ?_)
      · replace hR := yf_t c_20 hR
        refine xr_aload_n (n := 40) (j := 0) C dd_X9_ofCell_1.2.2.2.2.2.1 rfl rfl ?_
        refine xr_iload_n (n := 41) (j := 1) C dd_X9_ofCell_1.2.2.2.2.2.2.1 rfl rfl ?_
        refine xr_iload_n (n := 42) (j := 2) C dd_X9_ofCell_1.2.2.2.2.2.2.2.1 rfl rfl ?_
        refine xr_iload_n (n := 43) (j := 3) C dd_X9_ofCell_1.2.2.2.2.2.2.2.2.1 rfl rfl ?_
        obtain ⟨x_21, hx_21, hR⟩ := yf_b hR
        refine xr_callVp (n := 46) (As := [.int i1, .int i2, .int i3]) (rest := []) C (kX9_cellTold_r l D cy (g := g) (gth := x_16.2) (gw := gw) (gB := gB) (gK := gK) (gU := gU) (gS := gS) (gbe := gbe) (gwo := gwo) (gta := gta) (gn := gn) (glr := glr) (glc := glc) (gti := gti) (ggo := ggo) (gR := gR) (gch := gch) (gD := gD) (gBd := gBd) (gBG := gBG) (gKd := gKd) (gKG := gKG) (gUd := gUd) (gUG := gUG) (gSd := gSd) (gSG := gSG) (gnr := gnr) (gnk := gnk) (gnc := gnc) (gng := gng) (gns := gns) (gna := gna) (gnb := gnb) (gnad := gnad) (gnan := gnan) (gnak := gnak) (gnaG := gnaG) (gnbd := gnbd) (gnbn := gnbn) (gnbk := gnbk) (gnbG := gnbG) (i1 := i1) (i2 := i2) (i3 := i3) hx_21) mX9_cellTold u_1520 u_1522 u_50 0 rfl rfl 14 [0, 1, 2, 3, 4, 5, 6, 7, 8, 9, 10, 11, 12, 13] [] rfl (by decide +kernel) rfl rfl rfl rfl (Nat.le_of_ble_eq_true rfl) (Nat.le_of_ble_eq_true rfl) (Nat.le_of_ble_eq_true rfl) (Nat.le_of_ble_eq_true rfl) (Nat.le_of_ble_eq_true rfl) dd_X9_ofCell_1.2.2.2.2.2.2.2.2.2.1 rfl (fun _ _ hp => hp.2) (fun v_22 hp_24 => ?_)
        obtain ⟨rfl, -⟩ := hp_24
        refine xr_st (st' := [.int x_21]) rfl ?_
        obtain rfl := Option.some.inj hR
        exact ret x_21 ⟨rfl, rfl⟩ (Nat.le_of_ble_eq_true rfl) (Nat.le_of_ble_eq_true rfl) dd_X9_ofCell_1.2.2.2.2.2.2.2.2.2.2.1
      · replace hR := yf_f c_20 hR
        refine xr_iconst (n := 36) (v := 0) C dd_X9_ofCell_1.2.2.2.1 rfl rfl ?_
        refine xr_goto (tgt := 46) C dd_X9_ofCell_1.2.2.2.2.1 rfl ?_
        obtain rfl := Option.some.inj hR
        exact ret 0 ⟨rfl, rfl⟩ (Nat.le_of_ble_eq_true rfl) (Nat.le_of_ble_eq_true rfl) dd_X9_ofCell_1.2.2.2.2.2.2.2.2.2.2.1
    refine xr_if_ne (tgt := 27) (n := 23) C dd_X9_ofCell_0.2.2.2.2.2.2.2.2.2.2.2.2.1 rfl rfl (fun c_25 => ?_) (fun c_25 => ?_)
    · replace hE_15 := yf_f c_25 hE_15
      refine xr_iconst (n := 28) (v := 0) C dd_X9_ofCell_0.2.2.2.2.2.2.2.2.2.2.2.2.2.2.2.1 rfl rfl ?_
      have e_26 := Option.some.inj hE_15
      subst e_26
      exact J_15
    · replace hE_15 := yf_t c_25 hE_15
      refine xr_iconst (n := 24) (v := 1) C dd_X9_ofCell_0.2.2.2.2.2.2.2.2.2.2.2.2.2.1 rfl rfl ?_
      refine xr_goto (tgt := 28) C dd_X9_ofCell_0.2.2.2.2.2.2.2.2.2.2.2.2.2.2.1 rfl ?_
      have e_27 := Option.some.inj hE_15
      subst e_27
      exact J_15
theorem dd_X9_result_0 : dk_R cX9_result [(0, .aload_n 0, 1), (1, .aload_n 0, 1), (2, .iload_n 1, 1), (3, .iload_n 2, 1), (4, .invokevirtual 228, 3), (7, .iconst 1, 1), (8, .invokevirtual 79, 3), (11, .ifCond .eq 7, 3), (14, .iconst 0, 1), (15, .goto 11, 3), (18, .aload_n 0, 1), (19, .getfield 38, 3), (22, .iload_n 1, 1), (23, .aaload, 1), (24, .iload_n 2, 1), (25, .iaload, 1)] := dk_use _ _ (by decide +kernel)
theorem dd_X9_result_1 : dk_R cX9_result [(26, .ireturn, 1)] := dk_use _ _ (by decide +kernel)
def fX9_result_i (gRn : Nat) (gRk : Nat) (gRG : Nat → Nat → Int32) (i1 : Int32) (i2 : Int32) : Option (Int32 × Int32) := ((fX9_isNoResult_i gRn gRk i1 i2).bind fun x_1 => ((fX9_start_i x_1 1).bind fun x_5 => (if x_5.1 = 0 then (if ¬ (i1 < 0 ∨ gRn ≤ i1.toNatClampNeg) then (if ¬ (i2 < 0 ∨ gRk ≤ i2.toNatClampNeg) then some (gRG i1.toNatClampNeg i2.toNatClampNeg, x_5.2) else none) else none) else some (0, x_5.2))))
abbrev hX9_result : Cond := .code yX9_result cX9_result 3 (some .int)
theorem mX9_result : yM yX9_result hX9_result 2 := ⟨u_1534, u_64, by decide +kernel, by decide +kernel, by decide +kernel⟩
set_option maxHeartbeats 4000000 in
set_option maxRecDepth 100000 in
theorem kX9_result_i (l : Launch) (D : va_G) (cy : Nat → ClassId) (g : Nat) (gth : Int32) (gw : Nat) (gB : Nat) (gK : Nat) (gU : Nat) (gS : Nat) (gbe : Int32) (gwo : Int32) (gta : Int64) (glr : Int32) (glc : Int32) (gti : Int32) (ggo : Int32) (gR : Nat) (gch : Int32) (gD : Nat) (gRd : Nat → Nat) (gRn : Nat) (gRk : Nat) (gRG : Nat → Nat → Int32) (i1 : Int32) (i2 : Int32) {res : Int32 × Int32} (hR : fX9_result_i gRn gRk gRG i1 i2 = some res) : YM l D cy yX9_result hX9_result 3 0 0 [.ref g, .int i1, .int i2] [[(g, .inr (11, [.int gth, .ref gw, .ref gB, .ref gK, .ref gU, .ref gS, .int gbe, .int gwo, .long gta, .null, .int glr, .int glc, .int gti, .int ggo, .ref gR, .int gch, .ref gD]))], [(gR, .inl (cy 3, gRn, .inr (.inr (.inr (.inr (yad gRd))))))], xg_rows gRd gRn (cy 1) gRk gRG] (fun v u => v = some (.int res.1) ∧ u = [[(g, .inr (11, [.int res.2, .ref gw, .ref gB, .ref gK, .ref gU, .ref gS, .int gbe, .int gwo, .long gta, .null, .int glr, .int glc, .int gti, .int ggo, .ref gR, .int gch, .ref gD]))], [(gR, .inl (cy 3, gRn, .inr (.inr (.inr (.inr (yad gRd))))))], xg_rows gRd gRn (cy 1) gRk gRG]) := by
  unfold fX9_result_i at hR
  refine YM.ofI (cc := cX9_result) (maxL := 3) (ret := (some .int)) (by decide +kernel) rfl (Nat.le_of_ble_eq_true rfl) [(0, .ref g), (1, .int i1), (2, .int i2)] rfl rfl (fun p e s m args below meth c A H0 Q C hnm ret => ?_)
  refine xr_aload_n (n := 1) (j := 0) C dd_X9_result_0.1 rfl rfl ?_
  refine xr_aload_n (n := 2) (j := 0) C dd_X9_result_0.2.1 rfl rfl ?_
  refine xr_iload_n (n := 3) (j := 1) C dd_X9_result_0.2.2.1 rfl rfl ?_
  refine xr_iload_n (n := 4) (j := 2) C dd_X9_result_0.2.2.2.1 rfl rfl ?_
  obtain ⟨x_1, hx_1, hR⟩ := yf_b hR
  refine xr_callVp (n := 7) (As := [.int i1, .int i2]) (rest := [.ref g]) C (kX9_isNoResult_i l D cy (g := g) (gth := gth) (gw := gw) (gB := gB) (gK := gK) (gU := gU) (gS := gS) (gbe := gbe) (gwo := gwo) (gta := gta) (glr := glr) (glc := glc) (gti := gti) (ggo := ggo) (gR := gR) (gch := gch) (gD := gD) (gRd := gRd) (gRn := gRn) (gRk := gRk) (gRG := gRG) (i1 := i1) (i2 := i2) hx_1) mX9_isNoResult u_1488 u_1490 u_45 0 rfl rfl 3 [0, 1, 2] [] rfl (by decide +kernel) rfl rfl rfl rfl (Nat.le_of_ble_eq_true rfl) (Nat.le_of_ble_eq_true rfl) (Nat.le_of_ble_eq_true rfl) (Nat.le_of_ble_eq_true rfl) (Nat.le_of_ble_eq_true rfl) dd_X9_result_0.2.2.2.2.1 rfl (fun _ _ hp => hp.2) (fun v_2 hp_4 => ?_)
  obtain ⟨rfl, -⟩ := hp_4
  refine xr_st (st' := [.int x_1, .ref g]) rfl ?_
  refine xr_iconst (n := 8) (v := 1) C dd_X9_result_0.2.2.2.2.2.1 rfl rfl ?_
  obtain ⟨x_5, hx_5, hR⟩ := yf_b hR
  refine xr_callV (n := 11) (As := [.int x_1, .int 1]) (rest := []) C (kX9_start_i l D cy (g := g) (gth := gth) (gw := gw) (gB := gB) (gK := gK) (gU := gU) (gS := gS) (gbe := gbe) (gwo := gwo) (gta := gta) (glr := glr) (glc := glc) (gti := gti) (ggo := ggo) (gR := gR) (gch := gch) (gD := gD) (i1 := x_1) (i2 := 1) hx_5) mX9_start u_1301 u_1303 u_29 0 rfl rfl 3 [0] [1, 2] rfl (by decide +kernel) rfl rfl rfl rfl (Nat.le_of_ble_eq_true rfl) (Nat.le_of_ble_eq_true rfl) (Nat.le_of_ble_eq_true rfl) (Nat.le_of_ble_eq_true rfl) (Nat.le_of_ble_eq_true rfl) dd_X9_result_0.2.2.2.2.2.2.1 rfl (fun v_6 u_7 hp_8 => ?_)
  obtain ⟨rfl, rfl⟩ := hp_8
  refine xr_perm C 3 [0, 1, 2] [] [[(g, .inr (11, [.int x_5.2, .ref gw, .ref gB, .ref gK, .ref gU, .ref gS, .int gbe, .int gwo, .long gta, .null, .int glr, .int glc, .int gti, .int ggo, .ref gR, .int gch, .ref gD]))], [(gR, .inl (cy 3, gRn, .inr (.inr (.inr (.inr (yad gRd))))))], xg_rows gRd gRn (cy 1) gRk gRG] rfl (by decide +kernel) rfl ?_
  refine xr_st (st' := [.int x_5.1]) rfl ?_
  refine xr_if_eq (tgt := 18) (n := 14) C dd_X9_result_0.2.2.2.2.2.2.2.1 rfl rfl (fun c_9 => ?_) (fun c_9 => ?_)
  · replace hR := yf_t c_9 hR
    refine xr_aload_n (n := 19) (j := 0) C dd_X9_result_0.2.2.2.2.2.2.2.2.2.2.1 rfl rfl ?_
    refine xr_get (n := 22) C 0 rfl rfl 14 (by decide) in_X9 u_1251 rfl (v := .ref gR) rfl dd_X9_result_0.2.2.2.2.2.2.2.2.2.2.2.1 rfl ?_
    refine xr_iload_n (n := 23) (j := 1) C dd_X9_result_0.2.2.2.2.2.2.2.2.2.2.2.2.1 rfl rfl ?_
    obtain ⟨g_10, hR⟩ := yf_g hR
    refine xr_aald (n := 24) C 1 0 rfl 3 rfl rfl g_10 rfl dd_X9_result_0.2.2.2.2.2.2.2.2.2.2.2.2.2.1 rfl ?_
    refine xr_iload_n (n := 25) (j := 2) C dd_X9_result_0.2.2.2.2.2.2.2.2.2.2.2.2.2.2.1 rfl rfl ?_
    obtain ⟨g_11, hR⟩ := yf_g hR
    refine xr_ialdg (n := 26) C 2 rfl i1.toNatClampNeg (ylt g_10) g_11 dd_X9_result_0.2.2.2.2.2.2.2.2.2.2.2.2.2.2.2.1 rfl ?_
    obtain rfl := Option.some.inj hR
    exact ret (gRG i1.toNatClampNeg i2.toNatClampNeg) ⟨rfl, rfl⟩ (Nat.le_of_ble_eq_true rfl) (Nat.le_of_ble_eq_true rfl) dd_X9_result_1.1
  · replace hR := yf_f c_9 hR
    refine xr_iconst (n := 15) (v := 0) C dd_X9_result_0.2.2.2.2.2.2.2.2.1 rfl rfl ?_
    refine xr_goto (tgt := 26) C dd_X9_result_0.2.2.2.2.2.2.2.2.2.1 rfl ?_
    obtain rfl := Option.some.inj hR
    exact ret 0 ⟨rfl, rfl⟩ (Nat.le_of_ble_eq_true rfl) (Nat.le_of_ble_eq_true rfl) dd_X9_result_1.1
