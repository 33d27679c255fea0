theorem u_1442 : Cond.methodLink RX9 193 yX8_skipped ∈ yU := yu_tables_1_6 186 (by decide +kernel) (by decide +kernel)
theorem u_1243 : Cond.fieldLink RX9 213 "PulsemeshModel" "beats" "I" ∈ yU := yu_tables_1_5 227 (by decide +kernel) (by decide +kernel)
theorem u_1244 : Cond.fieldLink RX9 184 "PulsemeshModel" "works" "I" ∈ yU := yu_tables_1_5 228 (by decide +kernel) (by decide +kernel)
theorem u_1418 : Cond.methodLink RX9 187 yX9_left_ ∈ yU := yu_tables_1_6 162 (by decide +kernel) (by decide +kernel)
theorem u_1420 : Cond.instanceMethod yX9_left_ ∈ yU := yu_tables_1_6 164 (by decide +kernel) (by decide +kernel)
theorem u_35 : Cond.selects RX9 yX9_left_ yX9_left_ ∈ yU := yu 35 (by decide +kernel) (by decide +kernel)
theorem u_1515 : Cond.code yX9_meshTold cX9_meshTold 2 (some .int) ∈ yU := yu_tables_1_7 19 (by decide +kernel) (by decide +kernel)
theorem u_1512 : Cond.methodLink RX9 241 yX9_meshTold ∈ yU := yu_tables_1_7 16 (by decide +kernel) (by decide +kernel)
theorem u_1514 : Cond.instanceMethod yX9_meshTold ∈ yU := yu_tables_1_7 18 (by decide +kernel) (by decide +kernel)
theorem u_49 : Cond.selects RX9 yX9_meshTold yX9_meshTold ∈ yU := yu 49 (by decide +kernel) (by decide +kernel)
theorem u_1511 : Cond.code yX9_mesh cX9_mesh 2 (some .int) ∈ yU := yu_tables_1_7 15 (by decide +kernel) (by decide +kernel)
theorem u_1530 : Cond.code yX9_placeIn cX9_placeIn 2 (some .int) ∈ yU := yu_tables_1_7 34 (by decide +kernel) (by decide +kernel)
theorem u_1527 : Cond.code yX9_does cX9_does 3 (some .boolean) ∈ yU := yu_tables_1_7 31 (by decide +kernel) (by decide +kernel)
theorem dX9_meshTold_1 : decode cX9_meshTold 1 = .ok (.tableswitch 205 0 14 #[75, 83, 91, 99, 107, 118, 126, 134, 143, 152, 157, 162, 178, 183, 199], 75) := by decide +kernel
theorem dd_X9_meshTold_0 : dk_R cX9_meshTold [(0, .iload_n 1, 1), (76, .aload_n 0, 1), (77, .getfield 16, 3), (80, .getfield 48, 3), (83, .ireturn, 1), (84, .aload_n 0, 1), (85, .getfield 16, 3), (88, .getfield 52, 3), (91, .ireturn, 1), (92, .aload_n 0, 1), (93, .getfield 16, 3), (96, .getfield 55, 3), (99, .ireturn, 1), (100, .aload_n 0, 1), (101, .getfield 16, 3), (104, .getfield 86, 3)] := dk_use _ _ (by decide +kernel)
theorem dd_X9_meshTold_1 : dk_R cX9_meshTold [(107, .ireturn, 1), (108, .aload_n 0, 1), (109, .getfield 16, 3), (112, .getfield 89, 3), (115, .invokestatic 71, 3), (118, .ireturn, 1), (119, .aload_n 0, 1), (120, .getfield 16, 3), (123, .invokevirtual 120, 3), (126, .ireturn, 1), (127, .aload_n 0, 1), (128, .getfield 16, 3), (131, .invokevirtual 193, 3), (134, .ireturn, 1), (135, .aload_n 0, 1), (136, .aload_n 0, 1)] := dk_use _ _ (by decide +kernel)
theorem dd_X9_meshTold_2 : dk_R cX9_meshTold [(137, .getfield 24, 3), (140, .invokevirtual 133, 3), (143, .ireturn, 1), (144, .aload_n 0, 1), (145, .aload_n 0, 1), (146, .getfield 27, 3), (149, .invokevirtual 133, 3), (152, .ireturn, 1), (153, .aload_n 0, 1), (154, .getfield 213, 3), (157, .ireturn, 1), (158, .aload_n 0, 1), (159, .getfield 184, 3), (162, .ireturn, 1), (163, .aload_n 0, 1), (164, .getfield 137, 3)] := dk_use _ _ (by decide +kernel)
theorem dd_X9_meshTold_3 : dk_R cX9_meshTold [(167, .ifnull 7, 3), (170, .iconst 1, 1), (171, .goto 4, 3), (174, .iconst 0, 1), (175, .invokestatic 71, 3), (178, .ireturn, 1), (179, .aload_n 0, 1), (180, .invokevirtual 187, 3), (183, .ireturn, 1), (184, .aload_n 0, 1), (185, .getfield 137, 3), (188, .ifnonnull 7, 3), (191, .iconst (-1), 1), (192, .goto 7, 3), (195, .aload_n 0, 1), (196, .getfield 155, 3)] := dk_use _ _ (by decide +kernel)
theorem dd_X9_meshTold_4 : dk_R cX9_meshTold [(199, .ireturn, 1), (200, .aload_n 0, 1), (201, .getfield 38, 3), (204, .arraylength, 1), (205, .ireturn, 1), (206, .aload_n 0, 1), (207, .getfield 38, 3), (210, .arraylength, 1), (211, .ifCond .ne 7, 3), (214, .iconst 0, 1), (215, .goto 10, 3), (218, .aload_n 0, 1), (219, .getfield 38, 3), (222, .iconst 0, 1), (223, .aaload, 1), (224, .arraylength, 1)] := dk_use _ _ (by decide +kernel)
theorem dd_X9_meshTold_5 : dk_R cX9_meshTold [(225, .ireturn, 1)] := dk_use _ _ (by decide +kernel)
def fX9_meshTold_i (gbe : Int32) (gwo : Int32) (gwr : Int32) (gwk : Int32) (gwc : Int32) (gwg : Int32) (gws : Int32) (gwan : Nat) (gwak : Nat) (gwaG : Nat → Nat → Int32) (gwbn : Nat) (gwbk : Nat) (gwbG : Nat → Nat → Int32) (gBG : Nat → Nat → Int32) (gKG : Nat → Nat → Int32) (gRn : Nat) (gRk : Nat) (i1 : Int32) : Option (Int32) := (if i1 = 0 then some gwr else (if i1 = 1 then some gwk else (if i1 = 2 then some gwc else (if i1 = 3 then some gwg else (if i1 = 4 then ((fX9_one gws).bind fun x_6 => some x_6) else (if i1 = 5 then ((fX8_steps gwk gwg gwan gwak gwaG gwbn gwbk gwbG).bind fun x_11 => some x_11) else (if i1 = 6 then ((fX8_skipped gwk gwg gwan gwak gwaG gwbn gwbk gwbG).bind fun x_16 => some x_16) else (if i1 = 7 then ((fX9_count_i 5 5 gBG).bind fun x_21 => some x_21) else (if i1 = 8 then ((fX9_count_i 5 5 gKG).bind fun x_26 => some x_26) else (if i1 = 9 then some gbe else (if i1 = 10 then some gwo else (if i1 = 11 then ((fX9_one 0).bind fun x_33 => some x_33) else (if i1 = 12 then ((fX9_rest_i).bind fun x_38 => some 0) else (if i1 = 13 then some (-1) else (if i1 = 14 then some (nI gRn) else (if (nI gRn) = 0 then some 0 else (if ¬ ((0 : Int32) < 0 ∨ gRn ≤ (0 : Int32).toNatClampNeg) then some (nI gRk) else none)))))))))))))))))
abbrev hX9_meshTold : Cond := .code yX9_meshTold cX9_meshTold 2 (some .int)
theorem mX9_meshTold : yM yX9_meshTold hX9_meshTold 1 := ⟨u_1515, u_64, by decide +kernel, by decide +kernel, by decide +kernel⟩
set_option maxHeartbeats 4000000 in
set_option maxRecDepth 100000 in
theorem kX9_meshTold_i (l : Launch) (D : va_G) (cy : Nat → ClassId) (g : Nat) (gth : Int32) (gw : Nat) (gB : Nat) (gK : Nat) (gU : Nat) (gS : Nat) (gbe : Int32) (gwo : Int32) (gta : Int64) (glr : Int32) (glc : Int32) (gti : Int32) (ggo : Int32) (gR : Nat) (gch : Int32) (gD : Nat) (gwr : Int32) (gwk : Int32) (gwc : Int32) (gwg : Int32) (gws : Int32) (gwa : Nat) (gwb : Nat) (gwad : Nat → Nat) (gwan : Nat) (gwak : Nat) (gwaG : Nat → Nat → Int32) (gwbd : Nat → Nat) (gwbn : Nat) (gwbk : Nat) (gwbG : Nat → Nat → Int32) (gBd : Nat → Nat) (gBG : Nat → Nat → Int32) (gKd : Nat → Nat) (gKG : Nat → Nat → Int32) (gRd : Nat → Nat) (gRn : Nat) (gRk : Nat) (gRG : Nat → Nat → Int32) (i1 : Int32) {res : Int32} (hR : fX9_meshTold_i gbe gwo gwr gwk gwc gwg gws gwan gwak gwaG gwbn gwbk gwbG gBG gKG gRn gRk i1 = some res) : YM l D cy yX9_meshTold hX9_meshTold 4 0 0 [.ref g, .int i1] [[(g, .inr (11, [.int gth, .ref gw, .ref gB, .ref gK, .ref gU, .ref gS, .int gbe, .int gwo, .long gta, .null, .int glr, .int glc, .int gti, .int ggo, .ref gR, .int gch, .ref gD]))], [(gw, .inr (10, [.int gwr, .int gwk, .int gwc, .int gwg, .int gws, .ref gwa, .ref gwb]))], [(gwa, .inl (cy 3, gwan, .inr (.inr (.inr (.inr (yad gwad))))))], xg_rows gwad gwan (cy 1) gwak gwaG, [(gwb, .inl (cy 3, gwbn, .inr (.inr (.inr (.inr (yad gwbd))))))], xg_rows gwbd gwbn (cy 1) gwbk gwbG, [(gB, .inl (cy 4, 5, .inr (.inr (.inr (.inr (yad gBd))))))], xg_rows gBd 5 (cy 2) 5 gBG, [(gK, .inl (cy 4, 5, .inr (.inr (.inr (.inr (yad gKd))))))], xg_rows gKd 5 (cy 2) 5 gKG, [(gR, .inl (cy 3, gRn, .inr (.inr (.inr (.inr (yad gRd))))))], xg_rows gRd gRn (cy 1) gRk gRG] (fun v u => v = some (.int res) ∧ u = [[(g, .inr (11, [.int gth, .ref gw, .ref gB, .ref gK, .ref gU, .ref gS, .int gbe, .int gwo, .long gta, .null, .int glr, .int glc, .int gti, .int ggo, .ref gR, .int gch, .ref gD]))], [(gw, .inr (10, [.int gwr, .int gwk, .int gwc, .int gwg, .int gws, .ref gwa, .ref gwb]))], [(gwa, .inl (cy 3, gwan, .inr (.inr (.inr (.inr (yad gwad))))))], xg_rows gwad gwan (cy 1) gwak gwaG, [(gwb, .inl (cy 3, gwbn, .inr (.inr (.inr (.inr (yad gwbd))))))], xg_rows gwbd gwbn (cy 1) gwbk gwbG, [(gB, .inl (cy 4, 5, .inr (.inr (.inr (.inr (yad gBd))))))], xg_rows gBd 5 (cy 2) 5 gBG, [(gK, .inl (cy 4, 5, .inr (.inr (.inr (.inr (yad gKd))))))], xg_rows gKd 5 (cy 2) 5 gKG, [(gR, .inl (cy 3, gRn, .inr (.inr (.inr (.inr (yad gRd))))))], xg_rows gRd gRn (cy 1) gRk gRG]) := by
  unfold fX9_meshTold_i at hR
  refine YM.ofI (cc := cX9_meshTold) (maxL := 2) (ret := (some .int)) (by decide +kernel) rfl (Nat.le_of_ble_eq_true rfl) [(0, .ref g), (1, .int i1)] rfl rfl (fun p e s m args below meth c A H0 Q C hnm ret => ?_)
  refine xr_iload_n (n := 1) (j := 1) C dd_X9_meshTold_0.1 rfl rfl ?_
  by_cases c_1 : i1 = 0
  · replace hR := yf_t c_1 hR
    refine xr_tableIn (off := 75) (tgt := 76) C dX9_meshTold_1 (by rw [c_1]; decide) (by rw [c_1]; decide) (by rw [c_1]; decide) rfl ?_
    refine xr_aload_n (n := 77) (j := 0) C dd_X9_meshTold_0.2.1 rfl rfl ?_
    refine xr_get (n := 80) C 0 rfl rfl 1 (by decide) in_X9 u_1238 rfl (v := .ref gw) rfl dd_X9_meshTold_0.2.2.1 rfl ?_
    refine xr_get (n := 83) C 1 rfl rfl 0 (by decide) in_X8 u_1201 rfl (v := .int gwr) rfl dd_X9_meshTold_0.2.2.2.1 rfl ?_
    obtain rfl := Option.some.inj hR
    exact ret gwr ⟨rfl, rfl⟩ (Nat.le_of_ble_eq_true rfl) (Nat.le_of_ble_eq_true rfl) dd_X9_meshTold_0.2.2.2.2.1
  replace hR := yf_f c_1 hR
  by_cases c_2 : i1 = 1
  · replace hR := yf_t c_2 hR
    refine xr_tableIn (off := 83) (tgt := 84) C dX9_meshTold_1 (by rw [c_2]; decide) (by rw [c_2]; decide) (by rw [c_2]; decide) rfl ?_
    refine xr_aload_n (n := 85) (j := 0) C dd_X9_meshTold_0.2.2.2.2.2.1 rfl rfl ?_
    refine xr_get (n := 88) C 0 rfl rfl 1 (by decide) in_X9 u_1238 rfl (v := .ref gw) rfl dd_X9_meshTold_0.2.2.2.2.2.2.1 rfl ?_
    refine xr_get (n := 91) C 1 rfl rfl 1 (by decide) in_X8 u_1202 rfl (v := .int gwk) rfl dd_X9_meshTold_0.2.2.2.2.2.2.2.1 rfl ?_
    obtain rfl := Option.some.inj hR
    exact ret gwk ⟨rfl, rfl⟩ (Nat.le_of_ble_eq_true rfl) (Nat.le_of_ble_eq_true rfl) dd_X9_meshTold_0.2.2.2.2.2.2.2.2.1
  replace hR := yf_f c_2 hR
  by_cases c_3 : i1 = 2
  · replace hR := yf_t c_3 hR
    refine xr_tableIn (off := 91) (tgt := 92) C dX9_meshTold_1 (by rw [c_3]; decide) (by rw [c_3]; decide) (by rw [c_3]; decide) rfl ?_
    refine xr_aload_n (n := 93) (j := 0) C dd_X9_meshTold_0.2.2.2.2.2.2.2.2.2.1 rfl rfl ?_
    refine xr_get (n := 96) C 0 rfl rfl 1 (by decide) in_X9 u_1238 rfl (v := .ref gw) rfl dd_X9_meshTold_0.2.2.2.2.2.2.2.2.2.2.1 rfl ?_
    refine xr_get (n := 99) C 1 rfl rfl 2 (by decide) in_X8 u_1205 rfl (v := .int gwc) rfl dd_X9_meshTold_0.2.2.2.2.2.2.2.2.2.2.2.1 rfl ?_
    obtain rfl := Option.some.inj hR
    exact ret gwc ⟨rfl, rfl⟩ (Nat.le_of_ble_eq_true rfl) (Nat.le_of_ble_eq_true rfl) dd_X9_meshTold_0.2.2.2.2.2.2.2.2.2.2.2.2.1
  replace hR := yf_f c_3 hR
  by_cases c_4 : i1 = 3
  · replace hR := yf_t c_4 hR
    refine xr_tableIn (off := 99) (tgt := 100) C dX9_meshTold_1 (by rw [c_4]; decide) (by rw [c_4]; decide) (by rw [c_4]; decide) rfl ?_
    refine xr_aload_n (n := 101) (j := 0) C dd_X9_meshTold_0.2.2.2.2.2.2.2.2.2.2.2.2.2.1 rfl rfl ?_
    refine xr_get (n := 104) C 0 rfl rfl 1 (by decide) in_X9 u_1238 rfl (v := .ref gw) rfl dd_X9_meshTold_0.2.2.2.2.2.2.2.2.2.2.2.2.2.2.1 rfl ?_
    refine xr_get (n := 107) C 1 rfl rfl 3 (by decide) in_X8 u_1207 rfl (v := .int gwg) rfl dd_X9_meshTold_0.2.2.2.2.2.2.2.2.2.2.2.2.2.2.2.1 rfl ?_
    obtain rfl := Option.some.inj hR
    exact ret gwg ⟨rfl, rfl⟩ (Nat.le_of_ble_eq_true rfl) (Nat.le_of_ble_eq_true rfl) dd_X9_meshTold_1.1
  replace hR := yf_f c_4 hR
  by_cases c_5 : i1 = 4
  · replace hR := yf_t c_5 hR
    refine xr_tableIn (off := 107) (tgt := 108) C dX9_meshTold_1 (by rw [c_5]; decide) (by rw [c_5]; decide) (by rw [c_5]; decide) rfl ?_
    refine xr_aload_n (n := 109) (j := 0) C dd_X9_meshTold_1.2.1 rfl rfl ?_
    refine xr_get (n := 112) C 0 rfl rfl 1 (by decide) in_X9 u_1238 rfl (v := .ref gw) rfl dd_X9_meshTold_1.2.2.1 rfl ?_
    refine xr_get (n := 115) C 1 rfl rfl 4 (by decide) in_X8 u_1209 rfl (v := .int gws) rfl dd_X9_meshTold_1.2.2.2.1 rfl ?_
    obtain ⟨x_6, hx_6, hR⟩ := yf_b hR
    refine xr_callSp (n := 118) (As := [.int gws]) (rest := []) C (kX9_one l D cy (i1 := gws) hx_6) mX9_one u_1312 u_1313 12 [] [0, 1, 2, 3, 4, 5, 6, 7, 8, 9, 10, 11] rfl (by decide +kernel) rfl rfl rfl rfl (Nat.le_of_ble_eq_true rfl) (Nat.le_of_ble_eq_true rfl) (Nat.le_of_ble_eq_true rfl) (Nat.le_of_ble_eq_true rfl) (Nat.le_of_ble_eq_true rfl) dd_X9_meshTold_1.2.2.2.2.1 rfl (fun _ _ hp => hp.2) (fun v_7 hp_9 => ?_)
    obtain ⟨rfl, -⟩ := hp_9
    refine xr_st (st' := [.int x_6]) rfl ?_
    obtain rfl := Option.some.inj hR
    exact ret x_6 ⟨rfl, rfl⟩ (Nat.le_of_ble_eq_true rfl) (Nat.le_of_ble_eq_true rfl) dd_X9_meshTold_1.2.2.2.2.2.1
  replace hR := yf_f c_5 hR
  by_cases c_10 : i1 = 5
  · replace hR := yf_t c_10 hR
    refine xr_tableIn (off := 118) (tgt := 119) C dX9_meshTold_1 (by rw [c_10]; decide) (by rw [c_10]; decide) (by rw [c_10]; decide) rfl ?_
    refine xr_aload_n (n := 120) (j := 0) C dd_X9_meshTold_1.2.2.2.2.2.2.1 rfl rfl ?_
    refine xr_get (n := 123) C 0 rfl rfl 1 (by decide) in_X9 u_1238 rfl (v := .ref gw) rfl dd_X9_meshTold_1.2.2.2.2.2.2.2.1 rfl ?_
    obtain ⟨x_11, hx_11, hR⟩ := yf_b hR
    refine xr_callVp (n := 126) (As := []) (rest := []) C (kX8_steps l D cy (w := gw) (wr := gwr) (wk := gwk) (wc := gwc) (wg := gwg) (ws := gws) (wa := gwa) (wb := gwb) (wad := gwad) (wan := gwan) (wak := gwak) (waG := gwaG) (wbd := gwbd) (wbn := gwbn) (wbk := gwbk) (wbG := gwbG) hx_11) mX8_steps u_1359 u_1360 u_1361 1 rfl rfl 12 [1, 2, 3, 4, 5] [0, 6, 7, 8, 9, 10, 11] rfl (by decide +kernel) rfl rfl rfl rfl (Nat.le_of_ble_eq_true rfl) (Nat.le_of_ble_eq_true rfl) (Nat.le_of_ble_eq_true rfl) (Nat.le_of_ble_eq_true rfl) (Nat.le_of_ble_eq_true rfl) dd_X9_meshTold_1.2.2.2.2.2.2.2.2.1 rfl (fun _ _ hp => hp.2) (fun v_12 hp_14 => ?_)
    obtain ⟨rfl, -⟩ := hp_14
    refine xr_st (st' := [.int x_11]) rfl ?_
    obtain rfl := Option.some.inj hR
    exact ret x_11 ⟨rfl, rfl⟩ (Nat.le_of_ble_eq_true rfl) (Nat.le_of_ble_eq_true rfl) dd_X9_meshTold_1.2.2.2.2.2.2.2.2.2.1
  replace hR := yf_f c_10 hR
  by_cases c_15 : i1 = 6
  · replace hR := yf_t c_15 hR
    refine xr_tableIn (off := 126) (tgt := 127) C dX9_meshTold_1 (by rw [c_15]; decide) (by rw [c_15]; decide) (by rw [c_15]; decide) rfl ?_
    refine xr_aload_n (n := 128) (j := 0) C dd_X9_meshTold_1.2.2.2.2.2.2.2.2.2.2.1 rfl rfl ?_
    refine xr_get (n := 131) C 0 rfl rfl 1 (by decide) in_X9 u_1238 rfl (v := .ref gw) rfl dd_X9_meshTold_1.2.2.2.2.2.2.2.2.2.2.2.1 rfl ?_
    obtain ⟨x_16, hx_16, hR⟩ := yf_b hR
    refine xr_callVp (n := 134) (As := []) (rest := []) C (kX8_skipped l D cy (w := gw) (wr := gwr) (wk := gwk) (wc := gwc) (wg := gwg) (ws := gws) (wa := gwa) (wb := gwb) (wad := gwad) (wan := gwan) (wak := gwak) (waG := gwaG) (wbd := gwbd) (wbn := gwbn) (wbk := gwbk) (wbG := gwbG) hx_16) mX8_skipped u_1442 u_1364 u_1365 1 rfl rfl 12 [1, 2, 3, 4, 5] [0, 6, 7, 8, 9, 10, 11] rfl (by decide +kernel) rfl rfl rfl rfl (Nat.le_of_ble_eq_true rfl) (Nat.le_of_ble_eq_true rfl) (Nat.le_of_ble_eq_true rfl) (Nat.le_of_ble_eq_true rfl) (Nat.le_of_ble_eq_true rfl) dd_X9_meshTold_1.2.2.2.2.2.2.2.2.2.2.2.2.1 rfl (fun _ _ hp => hp.2) (fun v_17 hp_19 => ?_)
    obtain ⟨rfl, -⟩ := hp_19
    refine xr_st (st' := [.int x_16]) rfl ?_
    obtain rfl := Option.some.inj hR
    exact ret x_16 ⟨rfl, rfl⟩ (Nat.le_of_ble_eq_true rfl) (Nat.le_of_ble_eq_true rfl) dd_X9_meshTold_1.2.2.2.2.2.2.2.2.2.2.2.2.2.1
  replace hR := yf_f c_15 hR
  by_cases c_20 : i1 = 7
  · replace hR := yf_t c_20 hR
    refine xr_tableIn (off := 134) (tgt := 135) C dX9_meshTold_1 (by rw [c_20]; decide) (by rw [c_20]; decide) (by rw [c_20]; decide) rfl ?_
    refine xr_aload_n (n := 136) (j := 0) C dd_X9_meshTold_1.2.2.2.2.2.2.2.2.2.2.2.2.2.2.1 rfl rfl ?_
    refine xr_aload_n (n := 137) (j := 0) C dd_X9_meshTold_1.2.2.2.2.2.2.2.2.2.2.2.2.2.2.2.1 rfl rfl ?_
    refine xr_get (n := 140) C 0 rfl rfl 2 (by decide) in_X9 u_1239 rfl (v := .ref gB) rfl dd_X9_meshTold_2.1 rfl ?_
    obtain ⟨x_21, hx_21, hR⟩ := yf_b hR
    refine xr_callVp (n := 143) (As := [.ref gB]) (rest := []) C (kX9_count_i l D cy (g := g) (gth := gth) (gw := gw) (gB := gB) (gK := gK) (gU := gU) (gS := gS) (gbe := gbe) (gwo := gwo) (gta := gta) (glr := glr) (glc := glc) (gti := gti) (ggo := ggo) (gR := gR) (gch := gch) (gD := gD) (h := gB) (hd := gBd) (hn := 5) (hk := 5) (hG := gBG) hx_21) mX9_count u_1338 u_1340 u_31 0 rfl rfl 12 [0, 6, 7] [1, 2, 3, 4, 5, 8, 9, 10, 11] rfl (by decide +kernel) rfl rfl rfl rfl (Nat.le_of_ble_eq_true rfl) (Nat.le_of_ble_eq_true rfl) (Nat.le_of_ble_eq_true rfl) (Nat.le_of_ble_eq_true rfl) (Nat.le_of_ble_eq_true rfl) dd_X9_meshTold_2.2.1 rfl (fun _ _ hp => hp.2) (fun v_22 hp_24 => ?_)
    obtain ⟨rfl, -⟩ := hp_24
    refine xr_st (st' := [.int x_21]) rfl ?_
    obtain rfl := Option.some.inj hR
    exact ret x_21 ⟨rfl, rfl⟩ (Nat.le_of_ble_eq_true rfl) (Nat.le_of_ble_eq_true rfl) dd_X9_meshTold_2.2.2.1
  replace hR := yf_f c_20 hR
  by_cases c_25 : i1 = 8
  · replace hR := yf_t c_25 hR
    refine xr_tableIn (off := 143) (tgt := 144) C dX9_meshTold_1 (by rw [c_25]; decide) (by rw [c_25]; decide) (by rw [c_25]; decide) rfl ?_
    refine xr_aload_n (n := 145) (j := 0) C dd_X9_meshTold_2.2.2.2.1 rfl rfl ?_
    refine xr_aload_n (n := 146) (j := 0) C dd_X9_meshTold_2.2.2.2.2.1 rfl rfl ?_
    refine xr_get (n := 149) C 0 rfl rfl 3 (by decide) in_X9 u_1240 rfl (v := .ref gK) rfl dd_X9_meshTold_2.2.2.2.2.2.1 rfl ?_
    obtain ⟨x_26, hx_26, hR⟩ := yf_b hR
    refine xr_callVp (n := 152) (As := [.ref gK]) (rest := []) C (kX9_count_i l D cy (g := g) (gth := gth) (gw := gw) (gB := gB) (gK := gK) (gU := gU) (gS := gS) (gbe := gbe) (gwo := gwo) (gta := gta) (glr := glr) (glc := glc) (gti := gti) (ggo := ggo) (gR := gR) (gch := gch) (gD := gD) (h := gK) (hd := gKd) (hn := 5) (hk := 5) (hG := gKG) hx_26) mX9_count u_1338 u_1340 u_31 0 rfl rfl 12 [0, 8, 9] [1, 2, 3, 4, 5, 6, 7, 10, 11] rfl (by decide +kernel) rfl rfl rfl rfl (Nat.le_of_ble_eq_true rfl) (Nat.le_of_ble_eq_true rfl) (Nat.le_of_ble_eq_true rfl) (Nat.le_of_ble_eq_true rfl) (Nat.le_of_ble_eq_true rfl) dd_X9_meshTold_2.2.2.2.2.2.2.1 rfl (fun _ _ hp => hp.2) (fun v_27 hp_29 => ?_)
    obtain ⟨rfl, -⟩ := hp_29
    refine xr_st (st' := [.int x_26]) rfl ?_
    obtain rfl := Option.some.inj hR
    exact ret x_26 ⟨rfl, rfl⟩ (Nat.le_of_ble_eq_true rfl) (Nat.le_of_ble_eq_true rfl) dd_X9_meshTold_2.2.2.2.2.2.2.2.1
  replace hR := yf_f c_25 hR
  by_cases c_30 : i1 = 9
  · replace hR := yf_t c_30 hR
    refine xr_tableIn (off := 152) (tgt := 153) C dX9_meshTold_1 (by rw [c_30]; decide) (by rw [c_30]; decide) (by rw [c_30]; decide) rfl ?_
    refine xr_aload_n (n := 154) (j := 0) C dd_X9_meshTold_2.2.2.2.2.2.2.2.2.1 rfl rfl ?_
    refine xr_get (n := 157) C 0 rfl rfl 6 (by decide) in_X9 u_1243 rfl (v := .int gbe) rfl dd_X9_meshTold_2.2.2.2.2.2.2.2.2.2.1 rfl ?_
    obtain rfl := Option.some.inj hR
    exact ret gbe ⟨rfl, rfl⟩ (Nat.le_of_ble_eq_true rfl) (Nat.le_of_ble_eq_true rfl) dd_X9_meshTold_2.2.2.2.2.2.2.2.2.2.2.1
  replace hR := yf_f c_30 hR
  by_cases c_31 : i1 = 10
  · replace hR := yf_t c_31 hR
    refine xr_tableIn (off := 157) (tgt := 158) C dX9_meshTold_1 (by rw [c_31]; decide) (by rw [c_31]; decide) (by rw [c_31]; decide) rfl ?_
    refine xr_aload_n (n := 159) (j := 0) C dd_X9_meshTold_2.2.2.2.2.2.2.2.2.2.2.2.1 rfl rfl ?_
    refine xr_get (n := 162) C 0 rfl rfl 7 (by decide) in_X9 u_1244 rfl (v := .int gwo) rfl dd_X9_meshTold_2.2.2.2.2.2.2.2.2.2.2.2.2.1 rfl ?_
    obtain rfl := Option.some.inj hR
    exact ret gwo ⟨rfl, rfl⟩ (Nat.le_of_ble_eq_true rfl) (Nat.le_of_ble_eq_true rfl) dd_X9_meshTold_2.2.2.2.2.2.2.2.2.2.2.2.2.2.1
  replace hR := yf_f c_31 hR
  by_cases c_32 : i1 = 11
  · replace hR := yf_t c_32 hR
    refine xr_tableIn (off := 162) (tgt := 163) C dX9_meshTold_1 (by rw [c_32]; decide) (by rw [c_32]; decide) (by rw [c_32]; decide) rfl ?_
    refine xr_aload_n (n := 164) (j := 0) C dd_X9_meshTold_2.2.2.2.2.2.2.2.2.2.2.2.2.2.2.1 rfl rfl ?_
    refine xr_get (n := 167) C 0 rfl rfl 9 (by decide) in_X9 u_1246 rfl (v := .null) rfl dd_X9_meshTold_2.2.2.2.2.2.2.2.2.2.2.2.2.2.2.2.1 rfl ?_
    refine xr_ifnullN (tgt := 174) C dd_X9_meshTold_3.1 rfl ?_
    refine xr_iconst (n := 175) (v := 0) C dd_X9_meshTold_3.2.2.2.1 rfl rfl ?_
    obtain ⟨x_33, hx_33, hR⟩ := yf_b hR
    refine xr_callSp (n := 178) (As := [.int 0]) (rest := []) C (kX9_one l D cy (i1 := 0) hx_33) mX9_one u_1312 u_1313 12 [] [0, 1, 2, 3, 4, 5, 6, 7, 8, 9, 10, 11] rfl (by decide +kernel) rfl rfl rfl rfl (Nat.le_of_ble_eq_true rfl) (Nat.le_of_ble_eq_true rfl) (Nat.le_of_ble_eq_true rfl) (Nat.le_of_ble_eq_true rfl) (Nat.le_of_ble_eq_true rfl) dd_X9_meshTold_3.2.2.2.2.1 rfl (fun _ _ hp => hp.2) (fun v_34 hp_36 => ?_)
    obtain ⟨rfl, -⟩ := hp_36
    refine xr_st (st' := [.int x_33]) rfl ?_
    obtain rfl := Option.some.inj hR
    exact ret x_33 ⟨rfl, rfl⟩ (Nat.le_of_ble_eq_true rfl) (Nat.le_of_ble_eq_true rfl) dd_X9_meshTold_3.2.2.2.2.2.1
  replace hR := yf_f c_32 hR
  by_cases c_37 : i1 = 12
  · replace hR := yf_t c_37 hR
    refine xr_tableIn (off := 178) (tgt := 179) C dX9_meshTold_1 (by rw [c_37]; decide) (by rw [c_37]; decide) (by rw [c_37]; decide) rfl ?_
    refine xr_aload_n (n := 180) (j := 0) C dd_X9_meshTold_3.2.2.2.2.2.2.1 rfl rfl ?_
    obtain ⟨x_38, hx_38, hR⟩ := yf_b hR
    obtain rfl := Option.some.inj (show some ((0) : Int32) = some x_38 from hx_38)
    refine xr_callVp (n := 183) (As := []) (rest := []) C (kX9_rest_i l D cy (g := g) (gth := gth) (gw := gw) (gB := gB) (gK := gK) (gU := gU) (gS := gS) (gbe := gbe) (gwo := gwo) (gta := gta) (glr := glr) (glc := glc) (gti := gti) (ggo := ggo) (gR := gR) (gch := gch) (gD := gD) hx_38) mX9_left_ u_1418 u_1420 u_35 0 rfl rfl 12 [0] [1, 2, 3, 4, 5, 6, 7, 8, 9, 10, 11] rfl (by decide +kernel) rfl rfl rfl rfl (Nat.le_of_ble_eq_true rfl) (Nat.le_of_ble_eq_true rfl) (Nat.le_of_ble_eq_true rfl) (Nat.le_of_ble_eq_true rfl) (Nat.le_of_ble_eq_true rfl) dd_X9_meshTold_3.2.2.2.2.2.2.2.1 rfl (fun _ _ hp => hp.2) (fun v_39 hp_41 => ?_)
    obtain ⟨rfl, -⟩ := hp_41
    refine xr_st (st' := [.int 0]) rfl ?_
    obtain rfl := Option.some.inj hR
    exact ret 0 ⟨rfl, rfl⟩ (Nat.le_of_ble_eq_true rfl) (Nat.le_of_ble_eq_true rfl) dd_X9_meshTold_3.2.2.2.2.2.2.2.2.1
  replace hR := yf_f c_37 hR
  by_cases c_42 : i1 = 13
  · replace hR := yf_t c_42 hR
    refine xr_tableIn (off := 183) (tgt := 184) C dX9_meshTold_1 (by rw [c_42]; decide) (by rw [c_42]; decide) (by rw [c_42]; decide) rfl ?_
    refine xr_aload_n (n := 185) (j := 0) C dd_X9_meshTold_3.2.2.2.2.2.2.2.2.2.1 rfl rfl ?_
    refine xr_get (n := 188) C 0 rfl rfl 9 (by decide) in_X9 u_1246 rfl (v := .null) rfl dd_X9_meshTold_3.2.2.2.2.2.2.2.2.2.2.1 rfl ?_
    refine xr_ifnonnullN (n := 191) C dd_X9_meshTold_3.2.2.2.2.2.2.2.2.2.2.2.1 rfl ?_
    refine xr_iconst (n := 192) (v := -1) C dd_X9_meshTold_3.2.2.2.2.2.2.2.2.2.2.2.2.1 rfl rfl ?_
    refine xr_goto (tgt := 199) C dd_X9_meshTold_3.2.2.2.2.2.2.2.2.2.2.2.2.2.1 rfl ?_
    obtain rfl := Option.some.inj hR
    exact ret (-1) ⟨rfl, rfl⟩ (Nat.le_of_ble_eq_true rfl) (Nat.le_of_ble_eq_true rfl) dd_X9_meshTold_4.1
  replace hR := yf_f c_42 hR
  by_cases c_43 : i1 = 14
  · replace hR := yf_t c_43 hR
    refine xr_tableIn (off := 199) (tgt := 200) C dX9_meshTold_1 (by rw [c_43]; decide) (by rw [c_43]; decide) (by rw [c_43]; decide) rfl ?_
    refine xr_aload_n (n := 201) (j := 0) C dd_X9_meshTold_4.2.1 rfl rfl ?_
    refine xr_get (n := 204) C 0 rfl rfl 14 (by decide) in_X9 u_1251 rfl (v := .ref gR) rfl dd_X9_meshTold_4.2.2.1 rfl ?_
    refine xr_alen (n := 205) C 10 0 rfl 3 rfl rfl dd_X9_meshTold_4.2.2.2.1 rfl ?_
    obtain rfl := Option.some.inj hR
    exact ret (nI gRn) ⟨rfl, rfl⟩ (Nat.le_of_ble_eq_true rfl) (Nat.le_of_ble_eq_true rfl) dd_X9_meshTold_4.2.2.2.2.1
  replace hR := yf_f c_43 hR
  refine xr_tableOut (tgt := 206) C dX9_meshTold_1 (ytab_out (fun k h1 h2 => by
    rcases (show k = 0 ∨ k = 1 ∨ k = 2 ∨ k = 3 ∨ k = 4 ∨ k = 5 ∨ k = 6 ∨ k = 7 ∨ k = 8 ∨ k = 9 ∨ k = 10 ∨ k = 11 ∨ k = 12 ∨ k = 13 ∨ k = 14 by omega) with rfl | rfl | rfl | rfl | rfl | rfl | rfl | rfl | rfl | rfl | rfl | rfl | rfl | rfl | rfl
    · exact c_1
    · exact c_2
    · exact c_3
    · exact c_4
    · exact c_5
    · exact c_10
    · exact c_15
    · exact c_20
    · exact c_25
    · exact c_30
    · exact c_31
    · exact c_32
    · exact c_37
    · exact c_42
    · exact c_43)) rfl ?_
  refine xr_aload_n (n := 207) (j := 0) C dd_X9_meshTold_4.2.2.2.2.2.1 rfl rfl ?_
  refine xr_get (n := 210) C 0 rfl rfl 14 (by decide) in_X9 u_1251 rfl (v := .ref gR) rfl dd_X9_meshTold_4.2.2.2.2.2.2.1 rfl ?_
  refine xr_alen (n := 211) C 10 0 rfl 3 rfl rfl dd_X9_meshTold_4.2.2.2.2.2.2.2.1 rfl ?_
  refine xr_if_ne (tgt := 218) (n := 214) C dd_X9_meshTold_4.2.2.2.2.2.2.2.2.1 rfl rfl (fun c_44 => ?_) (fun c_44 => ?_)
  · replace hR := yf_f c_44 hR
    refine xr_aload_n (n := 219) (j := 0) C dd_X9_meshTold_4.2.2.2.2.2.2.2.2.2.2.2.1 rfl rfl ?_
    refine xr_get (n := 222) C 0 rfl rfl 14 (by decide) in_X9 u_1251 rfl (v := .ref gR) rfl dd_X9_meshTold_4.2.2.2.2.2.2.2.2.2.2.2.2.1 rfl ?_
    refine xr_iconst (n := 223) (v := 0) C dd_X9_meshTold_4.2.2.2.2.2.2.2.2.2.2.2.2.2.1 rfl rfl ?_
    obtain ⟨g_45, hR⟩ := yf_g hR
    refine xr_aald (n := 224) C 10 0 rfl 3 rfl rfl g_45 rfl dd_X9_meshTold_4.2.2.2.2.2.2.2.2.2.2.2.2.2.2.1 rfl ?_
    refine xr_aleng (n := 225) C 11 1 rfl ((0 : Int32).toNatClampNeg) (ylt g_45) rfl dd_X9_meshTold_4.2.2.2.2.2.2.2.2.2.2.2.2.2.2.2.1 rfl ?_
    obtain rfl := Option.some.inj hR
    exact ret (nI gRk) ⟨rfl, rfl⟩ (Nat.le_of_ble_eq_true rfl) (Nat.le_of_ble_eq_true rfl) dd_X9_meshTold_5.1
  · replace hR := yf_t c_44 hR
    refine xr_iconst (n := 215) (v := 0) C dd_X9_meshTold_4.2.2.2.2.2.2.2.2.2.1 rfl rfl ?_
    refine xr_goto (tgt := 225) C dd_X9_meshTold_4.2.2.2.2.2.2.2.2.2.2.1 rfl ?_
    obtain rfl := Option.some.inj hR
    exact ret 0 ⟨rfl, rfl⟩ (Nat.le_of_ble_eq_true rfl) (Nat.le_of_ble_eq_true rfl) dd_X9_meshTold_5.1
def fX9_meshTold_r (gbe : Int32) (gwo : Int32) (glr : Int32) (glc : Int32) (gti : Int32) (ggo : Int32) (gwr : Int32) (gwk : Int32) (gwc : Int32) (gwg : Int32) (gws : Int32) (gwan : Nat) (gwak : Nat) (gwaG : Nat → Nat → Int32) (gwbn : Nat) (gwbk : Nat) (gwbG : Nat → Nat → Int32) (gBG : Nat → Nat → Int32) (gKG : Nat → Nat → Int32) (gRn : Nat) (gRk : Nat) (gnr : Int32) (gnk : Int32) (gnc : Int32) (gng : Int32) (gns : Int32) (gnan : Nat) (gnak : Nat) (gnaG : Nat → Nat → Int32) (gnbn : Nat) (gnbk : Nat) (gnbG : Nat → Nat → Int32) (i1 : Int32) : Option (Int32) := (if i1 = 0 then some gwr else (if i1 = 1 then some gwk else (if i1 = 2 then some gwc else (if i1 = 3 then some gwg else (if i1 = 4 then ((fX9_one gws).bind fun x_6 => some x_6) else (if i1 = 5 then ((fX8_steps gwk gwg gwan gwak gwaG gwbn gwbk gwbG).bind fun x_11 => some x_11) else (if i1 = 6 then ((fX8_skipped gwk gwg gwan gwak gwaG gwbn gwbk gwbG).bind fun x_16 => some x_16) else (if i1 = 7 then ((fX9_count_r 5 5 gBG).bind fun x_21 => some x_21) else (if i1 = 8 then ((fX9_count_r 5 5 gKG).bind fun x_26 => some x_26) else (if i1 = 9 then some gbe else (if i1 = 10 then some gwo else (if i1 = 11 then ((fX9_one 1).bind fun x_33 => some x_33) else (if i1 = 12 then ((fX9_rest_r glr glc gti ggo gnr gnk gnc gng gns gnan gnak gnaG gnbn gnbk gnbG).bind fun x_38 => some x_38) else (if i1 = 13 then some gti else (if i1 = 14 then some (nI gRn) else (if (nI gRn) = 0 then some 0 else (if ¬ ((0 : Int32) < 0 ∨ gRn ≤ (0 : Int32).toNatClampNeg) then some (nI gRk) else none)))))))))))))))))
set_option maxHeartbeats 4000000 in
set_option maxRecDepth 100000 in
theorem kX9_meshTold_r (l : Launch) (D : va_G) (cy : Nat → ClassId) (g : Nat) (gth : Int32) (gw : Nat) (gB : Nat) (gK : Nat) (gU : Nat) (gS : Nat) (gbe : Int32) (gwo : Int32) (gta : Int64) (gn : Nat) (glr : Int32) (glc : Int32) (gti : Int32) (ggo : Int32) (gR : Nat) (gch : Int32) (gD : Nat) (gwr : Int32) (gwk : Int32) (gwc : Int32) (gwg : Int32) (gws : Int32) (gwa : Nat) (gwb : Nat) (gwad : Nat → Nat) (gwan : Nat) (gwak : Nat) (gwaG : Nat → Nat → Int32) (gwbd : Nat → Nat) (gwbn : Nat) (gwbk : Nat) (gwbG : Nat → Nat → Int32) (gBd : Nat → Nat) (gBG : Nat → Nat → Int32) (gKd : Nat → Nat) (gKG : Nat → Nat → Int32) (gRd : Nat → Nat) (gRn : Nat) (gRk : Nat) (gRG : Nat → Nat → Int32) (gnr : Int32) (gnk : Int32) (gnc : Int32) (gng : Int32) (gns : Int32) (gna : Nat) (gnb : Nat) (gnad : Nat → Nat) (gnan : Nat) (gnak : Nat) (gnaG : Nat → Nat → Int32) (gnbd : Nat → Nat) (gnbn : Nat) (gnbk : Nat) (gnbG : Nat → Nat → Int32) (i1 : Int32) {res : Int32} (hR : fX9_meshTold_r gbe gwo glr glc gti ggo gwr gwk gwc gwg gws gwan gwak gwaG gwbn gwbk gwbG gBG gKG gRn gRk gnr gnk gnc gng gns gnan gnak gnaG gnbn gnbk gnbG i1 = some res) : YM l D cy yX9_meshTold hX9_meshTold 6 0 0 [.ref g, .int i1] [[(g, .inr (11, [.int gth, .ref gw, .ref gB, .ref gK, .ref gU, .ref gS, .int gbe, .int gwo, .long gta, .ref gn, .int glr, .int glc, .int gti, .int ggo, .ref gR, .int gch, .ref gD]))], [(gw, .inr (10, [.int gwr, .int gwk, .int gwc, .int gwg, .int gws, .ref gwa, .ref gwb]))], [(gwa, .inl (cy 3, gwan, .inr (.inr (.inr (.inr (yad gwad))))))], xg_rows gwad gwan (cy 1) gwak gwaG, [(gwb, .inl (cy 3, gwbn, .inr (.inr (.inr (.inr (yad gwbd))))))], xg_rows gwbd gwbn (cy 1) gwbk gwbG, [(gB, .inl (cy 4, 5, .inr (.inr (.inr (.inr (yad gBd))))))], xg_rows gBd 5 (cy 2) 5 gBG, [(gK, .inl (cy 4, 5, .inr (.inr (.inr (.inr (yad gKd))))))], xg_rows gKd 5 (cy 2) 5 gKG, [(gR, .inl (cy 3, gRn, .inr (.inr (.inr (.inr (yad gRd))))))], xg_rows gRd gRn (cy 1) gRk gRG, [(gn, .inr (10, [.int gnr, .int gnk, .int gnc, .int gng, .int gns, .ref gna, .ref gnb]))], [(gna, .inl (cy 3, gnan, .inr (.inr (.inr (.inr (yad gnad))))))], xg_rows gnad gnan (cy 1) gnak gnaG, [(gnb, .inl (cy 3, gnbn, .inr (.inr (.inr (.inr (yad gnbd))))))], xg_rows gnbd gnbn (cy 1) gnbk gnbG] (fun v u => v = some (.int res) ∧ u = [[(g, .inr (11, [.int gth, .ref gw, .ref gB, .ref gK, .ref gU, .ref gS, .int gbe, .int gwo, .long gta, .ref gn, .int glr, .int glc, .int gti, .int ggo, .ref gR, .int gch, .ref gD]))], [(gw, .inr (10, [.int gwr, .int gwk, .int gwc, .int gwg, .int gws, .ref gwa, .ref gwb]))], [(gwa, .inl (cy 3, gwan, .inr (.inr (.inr (.inr (yad gwad))))))], xg_rows gwad gwan (cy 1) gwak gwaG, [(gwb, .inl (cy 3, gwbn, .inr (.inr (.inr (.inr (yad gwbd))))))], xg_rows gwbd gwbn (cy 1) gwbk gwbG, [(gB, .inl (cy 4, 5, .inr (.inr (.inr (.inr (yad gBd))))))], xg_rows gBd 5 (cy 2) 5 gBG, [(gK, .inl (cy 4, 5, .inr (.inr (.inr (.inr (yad gKd))))))], xg_rows gKd 5 (cy 2) 5 gKG, [(gR, .inl (cy 3, gRn, .inr (.inr (.inr (.inr (yad gRd))))))], xg_rows gRd gRn (cy 1) gRk gRG, [(gn, .inr (10, [.int gnr, .int gnk, .int gnc, .int gng, .int gns, .ref gna, .ref gnb]))], [(gna, .inl (cy 3, gnan, .inr (.inr (.inr (.inr (yad gnad))))))], xg_rows gnad gnan (cy 1) gnak gnaG, [(gnb, .inl (cy 3, gnbn, .inr (.inr (.inr (.inr (yad gnbd))))))], xg_rows gnbd gnbn (cy 1) gnbk gnbG]) := by
  unfold fX9_meshTold_r at hR
  refine YM.ofI (cc := cX9_meshTold) (maxL := 2) (ret := (some .int)) (by decide +kernel) rfl (Nat.le_of_ble_eq_true rfl) [(0, .ref g), (1, .int i1)] rfl rfl (fun p e s m args below meth c A H0 Q C hnm ret => ?_)
  refine xr_iload_n (n := 1) (j := 1) C dd_X9_meshTold_0.1 rfl rfl ?_
  by_cases c_1 : i1 = 0
  · replace hR := yf_t c_1 hR
    refine xr_tableIn (off := 75) (tgt := 76) C dX9_meshTold_1 (by rw [c_1]; decide) (by rw [c_1]; decide) (by rw [c_1]; decide) rfl ?_
    refine xr_aload_n (n := 77) (j := 0) C dd_X9_meshTold_0.2.1 rfl rfl ?_
    refine xr_get (n := 80) C 0 rfl rfl 1 (by decide) in_X9 u_1238 rfl (v := .ref gw) rfl dd_X9_meshTold_0.2.2.1 rfl ?_
    refine xr_get (n := 83) C 1 rfl rfl 0 (by decide) in_X8 u_1201 rfl (v := .int gwr) rfl dd_X9_meshTold_0.2.2.2.1 rfl ?_
    obtain rfl := Option.some.inj hR
    exact ret gwr ⟨rfl, rfl⟩ (Nat.le_of_ble_eq_true rfl) (Nat.le_of_ble_eq_true rfl) dd_X9_meshTold_0.2.2.2.2.1
  replace hR := yf_f c_1 hR
  by_cases c_2 : i1 = 1
  · replace hR := yf_t c_2 hR
    refine xr_tableIn (off := 83) (tgt := 84) C dX9_meshTold_1 (by rw [c_2]; decide) (by rw [c_2]; decide) (by rw [c_2]; decide) rfl ?_
    refine xr_aload_n (n := 85) (j := 0) C dd_X9_meshTold_0.2.2.2.2.2.1 rfl rfl ?_
    refine xr_get (n := 88) C 0 rfl rfl 1 (by decide) in_X9 u_1238 rfl (v := .ref gw) rfl dd_X9_meshTold_0.2.2.2.2.2.2.1 rfl ?_
    refine xr_get (n := 91) C 1 rfl rfl 1 (by decide) in_X8 u_1202 rfl (v := .int gwk) rfl dd_X9_meshTold_0.2.2.2.2.2.2.2.1 rfl ?_
    obtain rfl := Option.some.inj hR
    exact ret gwk ⟨rfl, rfl⟩ (Nat.le_of_ble_eq_true rfl) (Nat.le_of_ble_eq_true rfl) dd_X9_meshTold_0.2.2.2.2.2.2.2.2.1
  replace hR := yf_f c_2 hR
  by_cases c_3 : i1 = 2
  · replace hR := yf_t c_3 hR
    refine xr_tableIn (off := 91) (tgt := 92) C dX9_meshTold_1 (by rw [c_3]; decide) (by rw [c_3]; decide) (by rw [c_3]; decide) rfl ?_
    refine xr_aload_n (n := 93) (j := 0) C dd_X9_meshTold_0.2.2.2.2.2.2.2.2.2.1 rfl rfl ?_
    refine xr_get (n := 96) C 0 rfl rfl 1 (by decide) in_X9 u_1238 rfl (v := .ref gw) rfl dd_X9_meshTold_0.2.2.2.2.2.2.2.2.2.2.1 rfl ?_
    refine xr_get (n := 99) C 1 rfl rfl 2 (by decide) in_X8 u_1205 rfl (v := .int gwc) rfl dd_X9_meshTold_0.2.2.2.2.2.2.2.2.2.2.2.1 rfl ?_
    obtain rfl := Option.some.inj hR
    exact ret gwc ⟨rfl, rfl⟩ (Nat.le_of_ble_eq_true rfl) (Nat.le_of_ble_eq_true rfl) dd_X9_meshTold_0.2.2.2.2.2.2.2.2.2.2.2.2.1
  replace hR := yf_f c_3 hR
  by_cases c_4 : i1 = 3
  · replace hR := yf_t c_4 hR
    refine xr_tableIn (off := 99) (tgt := 100) C dX9_meshTold_1 (by rw [c_4]; decide) (by rw [c_4]; decide) (by rw [c_4]; decide) rfl ?_
    refine xr_aload_n (n := 101) (j := 0) C dd_X9_meshTold_0.2.2.2.2.2.2.2.2.2.2.2.2.2.1 rfl rfl ?_
    refine xr_get (n := 104) C 0 rfl rfl 1 (by decide) in_X9 u_1238 rfl (v := .ref gw) rfl dd_X9_meshTold_0.2.2.2.2.2.2.2.2.2.2.2.2.2.2.1 rfl ?_
    refine xr_get (n := 107) C 1 rfl rfl 3 (by decide) in_X8 u_1207 rfl (v := .int gwg) rfl dd_X9_meshTold_0.2.2.2.2.2.2.2.2.2.2.2.2.2.2.2.1 rfl ?_
    obtain rfl := Option.some.inj hR
    exact ret gwg ⟨rfl, rfl⟩ (Nat.le_of_ble_eq_true rfl) (Nat.le_of_ble_eq_true rfl) dd_X9_meshTold_1.1
  replace hR := yf_f c_4 hR
  by_cases c_5 : i1 = 4
  · replace hR := yf_t c_5 hR
    refine xr_tableIn (off := 107) (tgt := 108) C dX9_meshTold_1 (by rw [c_5]; decide) (by rw [c_5]; decide) (by rw [c_5]; decide) rfl ?_
    refine xr_aload_n (n := 109) (j := 0) C dd_X9_meshTold_1.2.1 rfl rfl ?_
    refine xr_get (n := 112) C 0 rfl rfl 1 (by decide) in_X9 u_1238 rfl (v := .ref gw) rfl dd_X9_meshTold_1.2.2.1 rfl ?_
    refine xr_get (n := 115) C 1 rfl rfl 4 (by decide) in_X8 u_1209 rfl (v := .int gws) rfl dd_X9_meshTold_1.2.2.2.1 rfl ?_
    obtain ⟨x_6, hx_6, hR⟩ := yf_b hR
    refine xr_callSp (n := 118) (As := [.int gws]) (rest := []) C (kX9_one l D cy (i1 := gws) hx_6) mX9_one u_1312 u_1313 17 [] [0, 1, 2, 3, 4, 5, 6, 7, 8, 9, 10, 11, 12, 13, 14, 15, 16] rfl (by decide +kernel) rfl rfl rfl rfl (Nat.le_of_ble_eq_true rfl) (Nat.le_of_ble_eq_true rfl) (Nat.le_of_ble_eq_true rfl) (Nat.le_of_ble_eq_true rfl) (Nat.le_of_ble_eq_true rfl) dd_X9_meshTold_1.2.2.2.2.1 rfl (fun _ _ hp => hp.2) (fun v_7 hp_9 => ?_)
    obtain ⟨rfl, -⟩ := hp_9
    refine xr_st (st' := [.int x_6]) rfl ?_
    obtain rfl := Option.some.inj hR
    exact ret x_6 ⟨rfl, rfl⟩ (Nat.le_of_ble_eq_true rfl) (Nat.le_of_ble_eq_true rfl) dd_X9_meshTold_1.2.2.2.2.2.1
  replace hR := yf_f c_5 hR
  by_cases c_10 : i1 = 5
  · replace hR := yf_t c_10 hR
    refine xr_tableIn (off := 118) (tgt := 119) C dX9_meshTold_1 (by rw [c_10]; decide) (by rw [c_10]; decide) (by rw [c_10]; decide) rfl ?_
    refine xr_aload_n (n := 120) (j := 0) C dd_X9_meshTold_1.2.2.2.2.2.2.1 rfl rfl ?_
    refine xr_get (n := 123) C 0 rfl rfl 1 (by decide) in_X9 u_1238 rfl (v := .ref gw) rfl dd_X9_meshTold_1.2.2.2.2.2.2.2.1 rfl ?_
    obtain ⟨x_11, hx_11, hR⟩ := yf_b hR
    refine xr_callVp (n := 126) (As := []) (rest := []) C (kX8_steps l D cy (w := gw) (wr := gwr) (wk := gwk) (wc := gwc) (wg := gwg) (ws := gws) (wa := gwa) (wb := gwb) (wad := gwad) (wan := gwan) (wak := gwak) (waG := gwaG) (wbd := gwbd) (wbn := gwbn) (wbk := gwbk) (wbG := gwbG) hx_11) mX8_steps u_1359 u_1360 u_1361 1 rfl rfl 17 [1, 2, 3, 4, 5] [0, 6, 7, 8, 9, 10, 11, 12, 13, 14, 15, 16] rfl (by decide +kernel) rfl rfl rfl rfl (Nat.le_of_ble_eq_true rfl) (Nat.le_of_ble_eq_true rfl) (Nat.le_of_ble_eq_true rfl) (Nat.le_of_ble_eq_true rfl) (Nat.le_of_ble_eq_true rfl) dd_X9_meshTold_1.2.2.2.2.2.2.2.2.1 rfl (fun _ _ hp => hp.2) (fun v_12 hp_14 => ?_)
    obtain ⟨rfl, -⟩ := hp_14
    refine xr_st (st' := [.int x_11]) rfl ?_
    obtain rfl := Option.some.inj hR
    exact ret x_11 ⟨rfl, rfl⟩ (Nat.le_of_ble_eq_true rfl) (Nat.le_of_ble_eq_true rfl) dd_X9_meshTold_1.2.2.2.2.2.2.2.2.2.1
  replace hR := yf_f c_10 hR
  by_cases c_15 : i1 = 6
  · replace hR := yf_t c_15 hR
    refine xr_tableIn (off := 126) (tgt := 127) C dX9_meshTold_1 (by rw [c_15]; decide) (by rw [c_15]; decide) (by rw [c_15]; decide) rfl ?_
    refine xr_aload_n (n := 128) (j := 0) C dd_X9_meshTold_1.2.2.2.2.2.2.2.2.2.2.1 rfl rfl ?_
    refine xr_get (n := 131) C 0 rfl rfl 1 (by decide) in_X9 u_1238 rfl (v := .ref gw) rfl dd_X9_meshTold_1.2.2.2.2.2.2.2.2.2.2.2.1 rfl ?_
    obtain ⟨x_16, hx_16, hR⟩ := yf_b hR
    refine xr_callVp (n := 134) (As := []) (rest := []) C (kX8_skipped l D cy (w := gw) (wr := gwr) (wk := gwk) (wc := gwc) (wg := gwg) (ws := gws) (wa := gwa) (wb := gwb) (wad := gwad) (wan := gwan) (wak := gwak) (waG := gwaG) (wbd := gwbd) (wbn := gwbn) (wbk := gwbk) (wbG := gwbG) hx_16) mX8_skipped u_1442 u_1364 u_1365 1 rfl rfl 17 [1, 2, 3, 4, 5] [0, 6, 7, 8, 9, 10, 11, 12, 13, 14, 15, 16] rfl (by decide +kernel) rfl rfl rfl rfl (Nat.le_of_ble_eq_true rfl) (Nat.le_of_ble_eq_true rfl) (Nat.le_of_ble_eq_true rfl) (Nat.le_of_ble_eq_true rfl) (Nat.le_of_ble_eq_true rfl) dd_X9_meshTold_1.2.2.2.2.2.2.2.2.2.2.2.2.1 rfl (fun _ _ hp => hp.2) (fun v_17 hp_19 => ?_)
    obtain ⟨rfl, -⟩ := hp_19
    refine xr_st (st' := [.int x_16]) rfl ?_
    obtain rfl := Option.some.inj hR
    exact ret x_16 ⟨rfl, rfl⟩ (Nat.le_of_ble_eq_true rfl) (Nat.le_of_ble_eq_true rfl) dd_X9_meshTold_1.2.2.2.2.2.2.2.2.2.2.2.2.2.1
  replace hR := yf_f c_15 hR
  by_cases c_20 : i1 = 7
  · replace hR := yf_t c_20 hR
    refine xr_tableIn (off := 134) (tgt := 135) C dX9_meshTold_1 (by rw [c_20]; decide) (by rw [c_20]; decide) (by rw [c_20]; decide) rfl ?_
    refine xr_aload_n (n := 136) (j := 0) C dd_X9_meshTold_1.2.2.2.2.2.2.2.2.2.2.2.2.2.2.1 rfl rfl ?_
    refine xr_aload_n (n := 137) (j := 0) C dd_X9_meshTold_1.2.2.2.2.2.2.2.2.2.2.2.2.2.2.2.1 rfl rfl ?_
    refine xr_get (n := 140) C 0 rfl rfl 2 (by decide) in_X9 u_1239 rfl (v := .ref gB) rfl dd_X9_meshTold_2.1 rfl ?_
    obtain ⟨x_21, hx_21, hR⟩ := yf_b hR
    refine xr_callVp (n := 143) (As := [.ref gB]) (rest := []) C (kX9_count_r l D cy (g := g) (gth := gth) (gw := gw) (gB := gB) (gK := gK) (gU := gU) (gS := gS) (gbe := gbe) (gwo := gwo) (gta := gta) (gn := gn) (glr := glr) (glc := glc) (gti := gti) (ggo := ggo) (gR := gR) (gch := gch) (gD := gD) (h := gB) (hd := gBd) (hn := 5) (hk := 5) (hG := gBG) hx_21) mX9_count u_1338 u_1340 u_31 0 rfl rfl 17 [0, 6, 7] [1, 2, 3, 4, 5, 8, 9, 10, 11, 12, 13, 14, 15, 16] rfl (by decide +kernel) rfl rfl rfl rfl (Nat.le_of_ble_eq_true rfl) (Nat.le_of_ble_eq_true rfl) (Nat.le_of_ble_eq_true rfl) (Nat.le_of_ble_eq_true rfl) (Nat.le_of_ble_eq_true rfl) dd_X9_meshTold_2.2.1 rfl (fun _ _ hp => hp.2) (fun v_22 hp_24 => ?_)
    obtain ⟨rfl, -⟩ := hp_24
    refine xr_st (st' := [.int x_21]) rfl ?_
    obtain rfl := Option.some.inj hR
    exact ret x_21 ⟨rfl, rfl⟩ (Nat.le_of_ble_eq_true rfl) (Nat.le_of_ble_eq_true rfl) dd_X9_meshTold_2.2.2.1
  replace hR := yf_f c_20 hR
  by_cases c_25 : i1 = 8
  · replace hR := yf_t c_25 hR
    refine xr_tableIn (off := 143) (tgt := 144) C dX9_meshTold_1 (by rw [c_25]; decide) (by rw [c_25]; decide) (by rw [c_25]; decide) rfl ?_
    refine xr_aload_n (n := 145) (j := 0) C dd_X9_meshTold_2.2.2.2.1 rfl rfl ?_
    refine xr_aload_n (n := 146) (j := 0) C dd_X9_meshTold_2.2.2.2.2.1 rfl rfl ?_
    refine xr_get (n := 149) C 0 rfl rfl 3 (by decide) in_X9 u_1240 rfl (v := .ref gK) rfl dd_X9_meshTold_2.2.2.2.2.2.1 rfl ?_
    obtain ⟨x_26, hx_26, hR⟩ := yf_b hR
    refine xr_callVp (n := 152) (As := [.ref gK]) (rest := []) C (kX9_count_r l D cy (g := g) (gth := gth) (gw := gw) (gB := gB) (gK := gK) (gU := gU) (gS := gS) (gbe := gbe) (gwo := gwo) (gta := gta) (gn := gn) (glr := glr) (glc := glc) (gti := gti) (ggo := ggo) (gR := gR) (gch := gch) (gD := gD) (h := gK) (hd := gKd) (hn := 5) (hk := 5) (hG := gKG) hx_26) mX9_count u_1338 u_1340 u_31 0 rfl rfl 17 [0, 8, 9] [1, 2, 3, 4, 5, 6, 7, 10, 11, 12, 13, 14, 15, 16] rfl (by decide +kernel) rfl rfl rfl rfl (Nat.le_of_ble_eq_true rfl) (Nat.le_of_ble_eq_true rfl) (Nat.le_of_ble_eq_true rfl) (Nat.le_of_ble_eq_true rfl) (Nat.le_of_ble_eq_true rfl) dd_X9_meshTold_2.2.2.2.2.2.2.1 rfl (fun _ _ hp => hp.2) (fun v_27 hp_29 => ?_)
    obtain ⟨rfl, -⟩ := hp_29
    refine xr_st (st' := [.int x_26]) rfl ?_
    obtain rfl := Option.some.inj hR
    exact ret x_26 ⟨rfl, rfl⟩ (Nat.le_of_ble_eq_true rfl) (Nat.le_of_ble_eq_true rfl) dd_X9_meshTold_2.2.2.2.2.2.2.2.1
  replace hR := yf_f c_25 hR
  by_cases c_30 : i1 = 9
  · replace hR := yf_t c_30 hR
    refine xr_tableIn (off := 152) (tgt := 153) C dX9_meshTold_1 (by rw [c_30]; decide) (by rw [c_30]; decide) (by rw [c_30]; decide) rfl ?_
    refine xr_aload_n (n := 154) (j := 0) C dd_X9_meshTold_2.2.2.2.2.2.2.2.2.1 rfl rfl ?_
    refine xr_get (n := 157) C 0 rfl rfl 6 (by decide) in_X9 u_1243 rfl (v := .int gbe) rfl dd_X9_meshTold_2.2.2.2.2.2.2.2.2.2.1 rfl ?_
    obtain rfl := Option.some.inj hR
    exact ret gbe ⟨rfl, rfl⟩ (Nat.le_of_ble_eq_true rfl) (Nat.le_of_ble_eq_true rfl) dd_X9_meshTold_2.2.2.2.2.2.2.2.2.2.2.1
  replace hR := yf_f c_30 hR
  by_cases c_31 : i1 = 10
  · replace hR := yf_t c_31 hR
    refine xr_tableIn (off := 157) (tgt := 158) C dX9_meshTold_1 (by rw [c_31]; decide) (by rw [c_31]; decide) (by rw [c_31]; decide) rfl ?_
    refine xr_aload_n (n := 159) (j := 0) C dd_X9_meshTold_2.2.2.2.2.2.2.2.2.2.2.2.1 rfl rfl ?_
    refine xr_get (n := 162) C 0 rfl rfl 7 (by decide) in_X9 u_1244 rfl (v := .int gwo) rfl dd_X9_meshTold_2.2.2.2.2.2.2.2.2.2.2.2.2.1 rfl ?_
    obtain rfl := Option.some.inj hR
    exact ret gwo ⟨rfl, rfl⟩ (Nat.le_of_ble_eq_true rfl) (Nat.le_of_ble_eq_true rfl) dd_X9_meshTold_2.2.2.2.2.2.2.2.2.2.2.2.2.2.1
  replace hR := yf_f c_31 hR
  by_cases c_32 : i1 = 11
  · replace hR := yf_t c_32 hR
    refine xr_tableIn (off := 162) (tgt := 163) C dX9_meshTold_1 (by rw [c_32]; decide) (by rw [c_32]; decide) (by rw [c_32]; decide) rfl ?_
    refine xr_aload_n (n := 164) (j := 0) C dd_X9_meshTold_2.2.2.2.2.2.2.2.2.2.2.2.2.2.2.1 rfl rfl ?_
    refine xr_get (n := 167) C 0 rfl rfl 9 (by decide) in_X9 u_1246 rfl (v := .ref gn) rfl dd_X9_meshTold_2.2.2.2.2.2.2.2.2.2.2.2.2.2.2.2.1 rfl ?_
    refine xr_ifnull (n := 170) C dd_X9_meshTold_3.1 rfl ?_
    refine xr_iconst (n := 171) (v := 1) C dd_X9_meshTold_3.2.1 rfl rfl ?_
    refine xr_goto (tgt := 175) C dd_X9_meshTold_3.2.2.1 rfl ?_
    obtain ⟨x_33, hx_33, hR⟩ := yf_b hR
    refine xr_callSp (n := 178) (As := [.int 1]) (rest := []) C (kX9_one l D cy (i1 := 1) hx_33) mX9_one u_1312 u_1313 17 [] [0, 1, 2, 3, 4, 5, 6, 7, 8, 9, 10, 11, 12, 13, 14, 15, 16] rfl (by decide +kernel) rfl rfl rfl rfl (Nat.le_of_ble_eq_true rfl) (Nat.le_of_ble_eq_true rfl) (Nat.le_of_ble_eq_true rfl) (Nat.le_of_ble_eq_true rfl) (Nat.le_of_ble_eq_true rfl) dd_X9_meshTold_3.2.2.2.2.1 rfl (fun _ _ hp => hp.2) (fun v_34 hp_36 => ?_)
    obtain ⟨rfl, -⟩ := hp_36
    refine xr_st (st' := [.int x_33]) rfl ?_
    obtain rfl := Option.some.inj hR
    exact ret x_33 ⟨rfl, rfl⟩ (Nat.le_of_ble_eq_true rfl) (Nat.le_of_ble_eq_true rfl) dd_X9_meshTold_3.2.2.2.2.2.1
  replace hR := yf_f c_32 hR
  by_cases c_37 : i1 = 12
  · replace hR := yf_t c_37 hR
    refine xr_tableIn (off := 178) (tgt := 179) C dX9_meshTold_1 (by rw [c_37]; decide) (by rw [c_37]; decide) (by rw [c_37]; decide) rfl ?_
    refine xr_aload_n (n := 180) (j := 0) C dd_X9_meshTold_3.2.2.2.2.2.2.1 rfl rfl ?_
    obtain ⟨x_38, hx_38, hR⟩ := yf_b hR
    refine xr_callVp (n := 183) (As := []) (rest := []) C (kX9_rest_r l D cy (g := g) (gth := gth) (gw := gw) (gB := gB) (gK := gK) (gU := gU) (gS := gS) (gbe := gbe) (gwo := gwo) (gta := gta) (gn := gn) (glr := glr) (glc := glc) (gti := gti) (ggo := ggo) (gR := gR) (gch := gch) (gD := gD) (gnr := gnr) (gnk := gnk) (gnc := gnc) (gng := gng) (gns := gns) (gna := gna) (gnb := gnb) (gnad := gnad) (gnan := gnan) (gnak := gnak) (gnaG := gnaG) (gnbd := gnbd) (gnbn := gnbn) (gnbk := gnbk) (gnbG := gnbG) hx_38) mX9_left_ u_1418 u_1420 u_35 0 rfl rfl 17 [0, 12, 13, 14, 15, 16] [1, 2, 3, 4, 5, 6, 7, 8, 9, 10, 11] rfl (by decide +kernel) rfl rfl rfl rfl (Nat.le_of_ble_eq_true rfl) (Nat.le_of_ble_eq_true rfl) (Nat.le_of_ble_eq_true rfl) (Nat.le_of_ble_eq_true rfl) (Nat.le_of_ble_eq_true rfl) dd_X9_meshTold_3.2.2.2.2.2.2.2.1 rfl (fun _ _ hp => hp.2) (fun v_39 hp_41 => ?_)
    obtain ⟨rfl, -⟩ := hp_41
    refine xr_st (st' := [.int x_38]) rfl ?_
    obtain rfl := Option.some.inj hR
    exact ret x_38 ⟨rfl, rfl⟩ (Nat.le_of_ble_eq_true rfl) (Nat.le_of_ble_eq_true rfl) dd_X9_meshTold_3.2.2.2.2.2.2.2.2.1
  replace hR := yf_f c_37 hR
  by_cases c_42 : i1 = 13
  · replace hR := yf_t c_42 hR
    refine xr_tableIn (off := 183) (tgt := 184) C dX9_meshTold_1 (by rw [c_42]; decide) (by rw [c_42]; decide) (by rw [c_42]; decide) rfl ?_
    refine xr_aload_n (n := 185) (j := 0) C dd_X9_meshTold_3.2.2.2.2.2.2.2.2.2.1 rfl rfl ?_
    refine xr_get (n := 188) C 0 rfl rfl 9 (by decide) in_X9 u_1246 rfl (v := .ref gn) rfl dd_X9_meshTold_3.2.2.2.2.2.2.2.2.2.2.1 rfl ?_
    refine xr_ifnonnull (tgt := 195) C dd_X9_meshTold_3.2.2.2.2.2.2.2.2.2.2.2.1 rfl ?_
    refine xr_aload_n (n := 196) (j := 0) C dd_X9_meshTold_3.2.2.2.2.2.2.2.2.2.2.2.2.2.2.1 rfl rfl ?_
    refine xr_get (n := 199) C 0 rfl rfl 12 (by decide) in_X9 u_1249 rfl (v := .int gti) rfl dd_X9_meshTold_3.2.2.2.2.2.2.2.2.2.2.2.2.2.2.2.1 rfl ?_
    obtain rfl := Option.some.inj hR
    exact ret gti ⟨rfl, rfl⟩ (Nat.le_of_ble_eq_true rfl) (Nat.le_of_ble_eq_true rfl) dd_X9_meshTold_4.1
  replace hR := yf_f c_42 hR
  by_cases c_43 : i1 = 14
  · replace hR := yf_t c_43 hR
    refine xr_tableIn (off := 199) (tgt := 200) C dX9_meshTold_1 (by rw [c_43]; decide) (by rw [c_43]; decide) (by rw [c_43]; decide) rfl ?_
    refine xr_aload_n (n := 201) (j := 0) C dd_X9_meshTold_4.2.1 rfl rfl ?_
    refine xr_get (n := 204) C 0 rfl rfl 14 (by decide) in_X9 u_1251 rfl (v := .ref gR) rfl dd_X9_meshTold_4.2.2.1 rfl ?_
    refine xr_alen (n := 205) C 10 0 rfl 3 rfl rfl dd_X9_meshTold_4.2.2.2.1 rfl ?_
    obtain rfl := Option.some.inj hR
    exact ret (nI gRn) ⟨rfl, rfl⟩ (Nat.le_of_ble_eq_true rfl) (Nat.le_of_ble_eq_true rfl) dd_X9_meshTold_4.2.2.2.2.1
  replace hR := yf_f c_43 hR
  refine xr_tableOut (tgt := 206) C dX9_meshTold_1 (ytab_out (fun k h1 h2 => by
    rcases (show k = 0 ∨ k = 1 ∨ k = 2 ∨ k = 3 ∨ k = 4 ∨ k = 5 ∨ k = 6 ∨ k = 7 ∨ k = 8 ∨ k = 9 ∨ k = 10 ∨ k = 11 ∨ k = 12 ∨ k = 13 ∨ k = 14 by omega) with rfl | rfl | rfl | rfl | rfl | rfl | rfl | rfl | rfl | rfl | rfl | rfl | rfl | rfl | rfl
    · exact c_1
    · exact c_2
    · exact c_3
    · exact c_4
    · exact c_5
    · exact c_10
    · exact c_15
    · exact c_20
    · exact c_25
    · exact c_30
    · exact c_31
    · exact c_32
    · exact c_37
    · exact c_42
    · exact c_43)) rfl ?_
  refine xr_aload_n (n := 207) (j := 0) C dd_X9_meshTold_4.2.2.2.2.2.1 rfl rfl ?_
  refine xr_get (n := 210) C 0 rfl rfl 14 (by decide) in_X9 u_1251 rfl (v := .ref gR) rfl dd_X9_meshTold_4.2.2.2.2.2.2.1 rfl ?_
  refine xr_alen (n := 211) C 10 0 rfl 3 rfl rfl dd_X9_meshTold_4.2.2.2.2.2.2.2.1 rfl ?_
  refine xr_if_ne (tgt := 218) (n := 214) C dd_X9_meshTold_4.2.2.2.2.2.2.2.2.1 rfl rfl (fun c_44 => ?_) (fun c_44 => ?_)
  · replace hR := yf_f c_44 hR
    refine xr_aload_n (n := 219) (j := 0) C dd_X9_meshTold_4.2.2.2.2.2.2.2.2.2.2.2.1 rfl rfl ?_
    refine xr_get (n := 222) C 0 rfl rfl 14 (by decide) in_X9 u_1251 rfl (v := .ref gR) rfl dd_X9_meshTold_4.2.2.2.2.2.2.2.2.2.2.2.2.1 rfl ?_
    refine xr_iconst (n := 223) (v := 0) C dd_X9_meshTold_4.2.2.2.2.2.2.2.2.2.2.2.2.2.1 rfl rfl ?_
    obtain ⟨g_45, hR⟩ := yf_g hR
    refine xr_aald (n := 224) C 10 0 rfl 3 rfl rfl g_45 rfl dd_X9_meshTold_4.2.2.2.2.2.2.2.2.2.2.2.2.2.2.1 rfl ?_
    refine xr_aleng (n := 225) C 11 1 rfl ((0 : Int32).toNatClampNeg) (ylt g_45) rfl dd_X9_meshTold_4.2.2.2.2.2.2.2.2.2.2.2.2.2.2.2.1 rfl ?_
    obtain rfl := Option.some.inj hR
    exact ret (nI gRk) ⟨rfl, rfl⟩ (Nat.le_of_ble_eq_true rfl) (Nat.le_of_ble_eq_true rfl) dd_X9_meshTold_5.1
  · replace hR := yf_t c_44 hR
    refine xr_iconst (n := 215) (v := 0) C dd_X9_meshTold_4.2.2.2.2.2.2.2.2.2.1 rfl rfl ?_
    refine xr_goto (tgt := 225) C dd_X9_meshTold_4.2.2.2.2.2.2.2.2.2.2.1 rfl ?_
    obtain rfl := Option.some.inj hR
    exact ret 0 ⟨rfl, rfl⟩ (Nat.le_of_ble_eq_true rfl) (Nat.le_of_ble_eq_true rfl) dd_X9_meshTold_5.1
theorem dd_X9_mesh_0 : dk_R cX9_mesh [(0, .aload_n 0, 1), (1, .iload_n 1, 1), (2, .iconst 0, 1), (3, .bipush 15, 2), (5, .invokestatic 75, 3), (8, .ifCond .ne 7, 3), (11, .iconst 1, 1), (12, .goto 4, 3), (15, .iconst 0, 1), (16, .iconst 1, 1), (17, .invokevirtual 79, 3), (20, .ifCond .eq 7, 3), (23, .iconst 0, 1), (24, .goto 8, 3), (27, .aload_n 0, 1), (28, .iload_n 1, 1)] := dk_use _ _ (by decide +kernel)
theorem dd_X9_mesh_1 : dk_R cX9_mesh [(29, .invokevirtual 241, 3), (32, .ireturn, 1)] := dk_use _ _ (by decide +kernel)
def fX9_mesh_i (gbe : Int32) (gwo : Int32) (gwr : Int32) (gwk : Int32) (gwc : Int32) (gwg : Int32) (gws : Int32) (gwan : Nat) (gwak : Nat) (gwaG : Nat → Nat → Int32) (gwbn : Nat) (gwbk : Nat) (gwbG : Nat → Nat → Int32) (gBG : Nat → Nat → Int32) (gKG : Nat → Nat → Int32) (gRn : Nat) (gRk : Nat) (i1 : Int32) : Option (Int32 × Int32) := ((fX9_isIn i1 0 15).bind fun x_1 => ((((if x_1 = 0 then some 1 else some 0) : Option (Int32))).bind fun r_6 => ((fX9_start_i r_6 1).bind fun x_7 => (if x_7.1 = 0 then ((fX9_meshTold_i gbe gwo gwr gwk gwc gwg gws gwan gwak gwaG gwbn gwbk gwbG gBG gKG gRn gRk i1).bind fun x_12 => some (x_12, x_7.2)) else some (0, x_7.2)))))
abbrev hX9_mesh : Cond := .code yX9_mesh cX9_mesh 2 (some .int)
theorem mX9_mesh : yM yX9_mesh hX9_mesh 1 := ⟨u_1511, u_64, by decide +kernel, by decide +kernel, by decide +kernel⟩
set_option maxHeartbeats 4000000 in
set_option maxRecDepth 100000 in
theorem kX9_mesh_i (l : Launch) (D : va_G) (cy : Nat → ClassId) (g : Nat) (gth : Int32) (gw : Nat) (gB : Nat) (gK : Nat) (gU : Nat) (gS : Nat) (gbe : Int32) (gwo : Int32) (gta : Int64) (glr : Int32) (glc : Int32) (gti : Int32) (ggo : Int32) (gR : Nat) (gch : Int32) (gD : Nat) (gwr : Int32) (gwk : Int32) (gwc : Int32) (gwg : Int32) (gws : Int32) (gwa : Nat) (gwb : Nat) (gwad : Nat → Nat) (gwan : Nat) (gwak : Nat) (gwaG : Nat → Nat → Int32) (gwbd : Nat → Nat) (gwbn : Nat) (gwbk : Nat) (gwbG : Nat → Nat → Int32) (gBd : Nat → Nat) (gBG : Nat → Nat → Int32) (gKd : Nat → Nat) (gKG : Nat → Nat → Int32) (gRd : Nat → Nat) (gRn : Nat) (gRk : Nat) (gRG : Nat → Nat → Int32) (i1 : Int32) {res : Int32 × Int32} (hR : fX9_mesh_i gbe gwo gwr gwk gwc gwg gws gwan gwak gwaG gwbn gwbk gwbG gBG gKG gRn gRk i1 = some res) : YM l D cy yX9_mesh hX9_mesh 7 0 0 [.ref g, .int i1] [[(g, .inr (11, [.int gth, .ref gw, .ref gB, .ref gK, .ref gU, .ref gS, .int gbe, .int gwo, .long gta, .null, .int glr, .int glc, .int gti, .int ggo, .ref gR, .int gch, .ref gD]))], [(gw, .inr (10, [.int gwr, .int gwk, .int gwc, .int gwg, .int gws, .ref gwa, .ref gwb]))], [(gwa, .inl (cy 3, gwan, .inr (.inr (.inr (.inr (yad gwad))))))], xg_rows gwad gwan (cy 1) gwak gwaG, [(gwb, .inl (cy 3, gwbn, .inr (.inr (.inr (.inr (yad gwbd))))))], xg_rows gwbd gwbn (cy 1) gwbk gwbG, [(gB, .inl (cy 4, 5, .inr (.inr (.inr (.inr (yad gBd))))))], xg_rows gBd 5 (cy 2) 5 gBG, [(gK, .inl (cy 4, 5, .inr (.inr (.inr (.inr (yad gKd))))))], xg_rows gKd 5 (cy 2) 5 gKG, [(gR, .inl (cy 3, gRn, .inr (.inr (.inr (.inr (yad gRd))))))], xg_rows gRd gRn (cy 1) gRk gRG] (fun v u => v = some (.int res.1) ∧ u = [[(g, .inr (11, [.int res.2, .ref gw, .ref gB, .ref gK, .ref gU, .ref gS, .int gbe, .int gwo, .long gta, .null, .int glr, .int glc, .int gti, .int ggo, .ref gR, .int gch, .ref gD]))], [(gw, .inr (10, [.int gwr, .int gwk, .int gwc, .int gwg, .int gws, .ref gwa, .ref gwb]))], [(gwa, .inl (cy 3, gwan, .inr (.inr (.inr (.inr (yad gwad))))))], xg_rows gwad gwan (cy 1) gwak gwaG, [(gwb, .inl (cy 3, gwbn, .inr (.inr (.inr (.inr (yad gwbd))))))], xg_rows gwbd gwbn (cy 1) gwbk gwbG, [(gB, .inl (cy 4, 5, .inr (.inr (.inr (.inr (yad gBd))))))], xg_rows gBd 5 (cy 2) 5 gBG, [(gK, .inl (cy 4, 5, .inr (.inr (.inr (.inr (yad gKd))))))], xg_rows gKd 5 (cy 2) 5 gKG, [(gR, .inl (cy 3, gRn, .inr (.inr (.inr (.inr (yad gRd))))))], xg_rows gRd gRn (cy 1) gRk gRG]) := by
  unfold fX9_mesh_i at hR
  refine YM.ofI (cc := cX9_mesh) (maxL := 2) (ret := (some .int)) (by decide +kernel) rfl (Nat.le_of_ble_eq_true rfl) [(0, .ref g), (1, .int i1)] rfl rfl (fun p e s m args below meth c A H0 Q C hnm ret => ?_)
  refine xr_aload_n (n := 1) (j := 0) C dd_X9_mesh_0.1 rfl rfl ?_
  refine xr_iload_n (n := 2) (j := 1) C dd_X9_mesh_0.2.1 rfl rfl ?_
  refine xr_iconst (n := 3) (v := 0) C dd_X9_mesh_0.2.2.1 rfl rfl ?_
  refine xr_bipush (n := 5) (v := 15) C dd_X9_mesh_0.2.2.2.1 rfl rfl ?_
  obtain ⟨x_1, hx_1, hR⟩ := yf_b hR
  refine xr_callSp (n := 8) (As := [.int i1, .int 0, .int 15]) (rest := [.ref g]) C (kX9_isIn l D cy (i1 := i1) (i2 := 0) (i3 := 15) hx_1) mX9_isIn u_1298 u_1299 12 [] [0, 1, 2, 3, 4, 5, 6, 7, 8, 9, 10, 11] rfl (by decide +kernel) rfl rfl rfl rfl (Nat.le_of_ble_eq_true rfl) (Nat.le_of_ble_eq_true rfl) (Nat.le_of_ble_eq_true rfl) (Nat.le_of_ble_eq_true rfl) (Nat.le_of_ble_eq_true rfl) dd_X9_mesh_0.2.2.2.2.1 rfl (fun _ _ hp => hp.2) (fun v_2 hp_4 => ?_)
  obtain ⟨rfl, -⟩ := hp_4
  refine xr_st (st' := [.int x_1, .ref g]) rfl ?_
  obtain ⟨r_6, hE_6, hR⟩ := yf_b hR
  have J_6 : X p l e (yR 7 0 0) s m args below meth c D A H0 2 Q [[(g, .inr (11, [.int gth, .ref gw, .ref gB, .ref gK, .ref gU, .ref gS, .int gbe, .int gwo, .long gta, .null, .int glr, .int glc, .int gti, .int ggo, .ref gR, .int gch, .ref gD]))], [(gw, .inr (10, [.int gwr, .int gwk, .int gwc, .int gwg, .int gws, .ref gwa, .ref gwb]))], [(gwa, .inl (cy 3, gwan, .inr (.inr (.inr (.inr (yad gwad))))))], xg_rows gwad gwan (cy 1) gwak gwaG, [(gwb, .inl (cy 3, gwbn, .inr (.inr (.inr (.inr (yad gwbd))))))], xg_rows gwbd gwbn (cy 1) gwbk gwbG, [(gB, .inl (cy 4, 5, .inr (.inr (.inr (.inr (yad gBd))))))], xg_rows gBd 5 (cy 2) 5 gBG, [(gK, .inl (cy 4, 5, .inr (.inr (.inr (.inr (yad gKd))))))], xg_rows gKd 5 (cy 2) 5 gKG, [(gR, .inl (cy 3, gRn, .inr (.inr (.inr (.inr (yad gRd))))))], xg_rows gRd gRn (cy 1) gRk gRG] 0 0 [(0, .ref g), (1, .int i1)] 16 [.int r_6, .ref g] := by
    refine xr_iconst (n := 17) (v := 1) C dd_X9_mesh_0.2.2.2.2.2.2.2.2.2.1 rfl rfl ?_
    obtain ⟨x_7, hx_7, hR⟩ := yf_b hR
    refine xr_callV (n := 20) (As := [.int r_6, .int 1]) (rest := []) C (kX9_start_i l D cy (g := g) (gth := gth) (gw := gw) (gB := gB) (gK := gK) (gU := gU) (gS := gS) (gbe := gbe) (gwo := gwo) (gta := gta) (glr := glr) (glc := glc) (gti := gti) (ggo := ggo) (gR := gR) (gch := gch) (gD := gD) (i1 := r_6) (i2 := 1) hx_7) mX9_start u_1301 u_1303 u_29 0 rfl rfl 12 [0] [1, 2, 3, 4, 5, 6, 7, 8, 9, 10, 11] rfl (by decide +kernel) rfl rfl rfl rfl (Nat.le_of_ble_eq_true rfl) (Nat.le_of_ble_eq_true rfl) (Nat.le_of_ble_eq_true rfl) (Nat.le_of_ble_eq_true rfl) (Nat.le_of_ble_eq_true rfl) dd_X9_mesh_0.2.2.2.2.2.2.2.2.2.2.1 rfl (fun v_8 u_9 hp_10 => ?_)
    obtain ⟨rfl, rfl⟩ := hp_10
    refine xr_perm C 12 [0, 1, 2, 3, 4, 5, 6, 7, 8, 9, 10, 11] [] [[(g, .inr (11, [.int x_7.2, .ref gw, .ref gB, .ref gK, .ref gU, .ref gS, .int gbe, .int gwo, .long gta, .null, .int glr, .int glc, .int gti, .int ggo, .ref gR, .int gch, .ref gD]))], [(gw, .inr (10, [.int gwr, .int gwk, .int gwc, .int gwg, .int gws, .ref gwa, .ref gwb]))], [(gwa, .inl (cy 3, gwan, .inr (.inr (.inr (.inr (yad gwad))))))], xg_rows gwad gwan (cy 1) gwak gwaG, [(gwb, .inl (cy 3, gwbn, .inr (.inr (.inr (.inr (yad gwbd))))))], xg_rows gwbd gwbn (cy 1) gwbk gwbG, [(gB, .inl (cy 4, 5, .inr (.inr (.inr (.inr (yad gBd))))))], xg_rows gBd 5 (cy 2) 5 gBG, [(gK, .inl (cy 4, 5, .inr (.inr (.inr (.inr (yad gKd))))))], xg_rows gKd 5 (cy 2) 5 gKG, [(gR, .inl (cy 3, gRn, .inr (.inr (.inr (.inr (yad gRd))))))], xg_rows gRd gRn (cy 1) gRk gRG] rfl (by decide +kernel) rfl ?_
    refine xr_st (st' := [.int x_7.1]) rfl ?_
    refine xr_if_eq (tgt := 27) (n := 23) C dd_X9_mesh_0.2.2.2.2.2.2.2.2.2.2.2.1 rfl rfl (fun c_11 => ?_) (fun c_11 => ?_)
    · replace hR := yf_t c_11 hR
      refine xr_aload_n (n := 28) (j := 0) C dd_X9_mesh_0.2.2.2.2.2.2.2.2.2.2.2.2.2.2.1 rfl rfl ?_
      refine xr_iload_n (n := 29) (j := 1) C dd_X9_mesh_0.2.2.2.2.2.2.2.2.2.2.2.2.2.2.2.1 rfl rfl ?_
      obtain ⟨x_12, hx_12, hR⟩ := yf_b hR
      refine xr_callVp (n := 32) (As := [.int i1]) (rest := []) C (kX9_meshTold_i l D cy (g := g) (gth := x_7.2) (gw := gw) (gB := gB) (gK := gK) (gU := gU) (gS := gS) (gbe := gbe) (gwo := gwo) (gta := gta) (glr := glr) (glc := glc) (gti := gti) (ggo := ggo) (gR := gR) (gch := gch) (gD := gD) (gwr := gwr) (gwk := gwk) (gwc := gwc) (gwg := gwg) (gws := gws) (gwa := gwa) (gwb := gwb) (gwad := gwad) (gwan := gwan) (gwak := gwak) (gwaG := gwaG) (gwbd := gwbd) (gwbn := gwbn) (gwbk := gwbk) (gwbG := gwbG) (gBd := gBd) (gBG := gBG) (gKd := gKd) (gKG := gKG) (gRd := gRd) (gRn := gRn) (gRk := gRk) (gRG := gRG) (i1 := i1) hx_12) mX9_meshTold u_1512 u_1514 u_49 0 rfl rfl 12 [0, 1, 2, 3, 4, 5, 6, 7, 8, 9, 10, 11] [] rfl (by decide +kernel) rfl rfl rfl rfl (Nat.le_of_ble_eq_true rfl) (Nat.le_of_ble_eq_true rfl) (Nat.le_of_ble_eq_true rfl) (Nat.le_of_ble_eq_true rfl) (Nat.le_of_ble_eq_true rfl) dd_X9_mesh_1.1 rfl (fun _ _ hp => hp.2) (fun v_13 hp_15 => ?_)
      obtain ⟨rfl, -⟩ := hp_15
      refine xr_st (st' := [.int x_12]) rfl ?_
      obtain rfl := Option.some.inj hR
      exact ret x_12 ⟨rfl, rfl⟩ (Nat.le_of_ble_eq_true rfl) (Nat.le_of_ble_eq_true rfl) dd_X9_mesh_1.2.1
    · replace hR := yf_f c_11 hR
      refine xr_iconst (n := 24) (v := 0) C dd_X9_mesh_0.2.2.2.2.2.2.2.2.2.2.2.2.1 rfl rfl ?_
      refine xr_goto (tgt := 32) C dd_X9_mesh_0.2.2.2.2.2.2.2.2.2.2.2.2.2.1 rfl ?_
      obtain rfl := Option.some.inj hR
      exact ret 0 ⟨rfl, rfl⟩ (Nat.le_of_ble_eq_true rfl) (Nat.le_of_ble_eq_true rfl) dd_X9_mesh_1.2.1
  refine xr_if_ne (tgt := 15) (n := 11) C dd_X9_mesh_0.2.2.2.2.2.1 rfl rfl (fun c_16 => ?_) (fun c_16 => ?_)
  · replace hE_6 := yf_f c_16 hE_6
    refine xr_iconst (n := 16) (v := 0) C dd_X9_mesh_0.2.2.2.2.2.2.2.2.1 rfl rfl ?_
    have e_17 := Option.some.inj hE_6
    subst e_17
    exact J_6
  · replace hE_6 := yf_t c_16 hE_6
    refine xr_iconst (n := 12) (v := 1) C dd_X9_mesh_0.2.2.2.2.2.2.1 rfl rfl ?_
    refine xr_goto (tgt := 16) C dd_X9_mesh_0.2.2.2.2.2.2.2.1 rfl ?_
    have e_18 := Option.some.inj hE_6
    subst e_18
    exact J_6
def fX9_mesh_r (gbe : Int32) (gwo : Int32) (glr : Int32) (glc : Int32) (gti : Int32) (ggo : Int32) (gwr : Int32) (gwk : Int32) (gwc : Int32) (gwg : Int32) (gws : Int32) (gwan : Nat) (gwak : Nat) (gwaG : Nat → Nat → Int32) (gwbn : Nat) (gwbk : Nat) (gwbG : Nat → Nat → Int32) (gBG : Nat → Nat → Int32) (gKG : Nat → Nat → Int32) (gRn : Nat) (gRk : Nat) (gnr : Int32) (gnk : Int32) (gnc : Int32) (gng : Int32) (gns : Int32) (gnan : Nat) (gnak : Nat) (gnaG : Nat → Nat → Int32) (gnbn : Nat) (gnbk : Nat) (gnbG : Nat → Nat → Int32) (i1 : Int32) : Option (Int32 × Int32) := ((fX9_isIn i1 0 15).bind fun x_1 => ((((if x_1 = 0 then some 1 else some 0) : Option (Int32))).bind fun r_6 => ((fX9_start_r r_6 1).bind fun x_7 => (if x_7.1 = 0 then ((fX9_meshTold_r gbe gwo glr glc gti ggo gwr gwk gwc gwg gws gwan gwak gwaG gwbn gwbk gwbG gBG gKG gRn gRk gnr gnk gnc gng gns gnan gnak gnaG gnbn gnbk gnbG i1).bind fun x_12 => some (x_12, x_7.2)) else some (0, x_7.2)))))
set_option maxHeartbeats 4000000 in
set_option maxRecDepth 100000 in
theorem kX9_mesh_r (l : Launch) (D : va_G) (cy : Nat → ClassId) (g : Nat) (gth : Int32) (gw : Nat) (gB : Nat) (gK : Nat) (gU : Nat) (gS : Nat) (gbe : Int32) (gwo : Int32) (gta : Int64) (gn : Nat) (glr : Int32) (glc : Int32) (gti : Int32) (ggo : Int32) (gR : Nat) (gch : Int32) (gD : Nat) (gwr : Int32) (gwk : Int32) (gwc : Int32) (gwg : Int32) (gws : Int32) (gwa : Nat) (gwb : Nat) (gwad : Nat → Nat) (gwan : Nat) (gwak : Nat) (gwaG : Nat → Nat → Int32) (gwbd : Nat → Nat) (gwbn : Nat) (gwbk : Nat) (gwbG : Nat → Nat → Int32) (gBd : Nat → Nat) (gBG : Nat → Nat → Int32) (gKd : Nat → Nat) (gKG : Nat → Nat → Int32) (gRd : Nat → Nat) (gRn : Nat) (gRk : Nat) (gRG : Nat → Nat → Int32) (gnr : Int32) (gnk : Int32) (gnc : Int32) (gng : Int32) (gns : Int32) (gna : Nat) (gnb : Nat) (gnad : Nat → Nat) (gnan : Nat) (gnak : Nat) (gnaG : Nat → Nat → Int32) (gnbd : Nat → Nat) (gnbn : Nat) (gnbk : Nat) (gnbG : Nat → Nat → Int32) (i1 : Int32) {res : Int32 × Int32} (hR : fX9_mesh_r gbe gwo glr glc gti ggo gwr gwk gwc gwg gws gwan gwak gwaG gwbn gwbk gwbG gBG gKG gRn gRk gnr gnk gnc gng gns gnan gnak gnaG gnbn gnbk gnbG i1 = some res) : YM l D cy yX9_mesh hX9_mesh 7 0 0 [.ref g, .int i1] [[(g, .inr (11, [.int gth, .ref gw, .ref gB, .ref gK, .ref gU, .ref gS, .int gbe, .int gwo, .long gta, .ref gn, .int glr, .int glc, .int gti, .int ggo, .ref gR, .int gch, .ref gD]))], [(gw, .inr (10, [.int gwr, .int gwk, .int gwc, .int gwg, .int gws, .ref gwa, .ref gwb]))], [(gwa, .inl (cy 3, gwan, .inr (.inr (.inr (.inr (yad gwad))))))], xg_rows gwad gwan (cy 1) gwak gwaG, [(gwb, .inl (cy 3, gwbn, .inr (.inr (.inr (.inr (yad gwbd))))))], xg_rows gwbd gwbn (cy 1) gwbk gwbG, [(gB, .inl (cy 4, 5, .inr (.inr (.inr (.inr (yad gBd))))))], xg_rows gBd 5 (cy 2) 5 gBG, [(gK, .inl (cy 4, 5, .inr (.inr (.inr (.inr (yad gKd))))))], xg_rows gKd 5 (cy 2) 5 gKG, [(gR, .inl (cy 3, gRn, .inr (.inr (.inr (.inr (yad gRd))))))], xg_rows gRd gRn (cy 1) gRk gRG, [(gn, .inr (10, [.int gnr, .int gnk, .int gnc, .int gng, .int gns, .ref gna, .ref gnb]))], [(gna, .inl (cy 3, gnan, .inr (.inr (.inr (.inr (yad gnad))))))], xg_rows gnad gnan (cy 1) gnak gnaG, [(gnb, .inl (cy 3, gnbn, .inr (.inr (.inr (.inr (yad gnbd))))))], xg_rows gnbd gnbn (cy 1) gnbk gnbG] (fun v u => v = some (.int res.1) ∧ u = [[(g, .inr (11, [.int res.2, .ref gw, .ref gB, .ref gK, .ref gU, .ref gS, .int gbe, .int gwo, .long gta, .ref gn, .int glr, .int glc, .int gti, .int ggo, .ref gR, .int gch, .ref gD]))], [(gw, .inr (10, [.int gwr, .int gwk, .int gwc, .int gwg, .int gws, .ref gwa, .ref gwb]))], [(gwa, .inl (cy 3, gwan, .inr (.inr (.inr (.inr (yad gwad))))))], xg_rows gwad gwan (cy 1) gwak gwaG, [(gwb, .inl (cy 3, gwbn, .inr (.inr (.inr (.inr (yad gwbd))))))], xg_rows gwbd gwbn (cy 1) gwbk gwbG, [(gB, .inl (cy 4, 5, .inr (.inr (.inr (.inr (yad gBd))))))], xg_rows gBd 5 (cy 2) 5 gBG, [(gK, .inl (cy 4, 5, .inr (.inr (.inr (.inr (yad gKd))))))], xg_rows gKd 5 (cy 2) 5 gKG, [(gR, .inl (cy 3, gRn, .inr (.inr (.inr (.inr (yad gRd))))))], xg_rows gRd gRn (cy 1) gRk gRG, [(gn, .inr (10, [.int gnr, .int gnk, .int gnc, .int gng, .int gns, .ref gna, .ref gnb]))], [(gna, .inl (cy 3, gnan, .inr (.inr (.inr (.inr (yad gnad))))))], xg_rows gnad gnan (cy 1) gnak gnaG, [(gnb, .inl (cy 3, gnbn, .inr (.inr (.inr (.inr (yad gnbd))))))], xg_rows gnbd gnbn (cy 1) gnbk gnbG]) := by
  unfold fX9_mesh_r at hR
  refine YM.ofI (cc := cX9_mesh) (maxL := 2) (ret := (some .int)) (by decide +kernel) rfl (Nat.le_of_ble_eq_true rfl) [(0, .ref g), (1, .int i1)] rfl rfl (fun p e s m args below meth c A H0 Q C hnm ret => ?_)
  refine xr_aload_n (n := 1) (j := 0) C dd_X9_mesh_0.1 rfl rfl ?_
  refine xr_iload_n (n := 2) (j := 1) C dd_X9_mesh_0.2.1 rfl rfl ?_
  refine xr_iconst (n := 3) (v := 0) C dd_X9_mesh_0.2.2.1 rfl rfl ?_
  refine xr_bipush (n := 5) (v := 15) C dd_X9_mesh_0.2.2.2.1 rfl rfl ?_
  obtain ⟨x_1, hx_1, hR⟩ := yf_b hR
  refine xr_callSp (n := 8) (As := [.int i1, .int 0, .int 15]) (rest := [.ref g]) C (kX9_isIn l D cy (i1 := i1) (i2 := 0) (i3 := 15) hx_1) mX9_isIn u_1298 u_1299 17 [] [0, 1, 2, 3, 4, 5, 6, 7, 8, 9, 10, 11, 12, 13, 14, 15, 16] rfl (by decide +kernel) rfl rfl rfl rfl (Nat.le_of_ble_eq_true rfl) (Nat.le_of_ble_eq_true rfl) (Nat.le_of_ble_eq_true rfl) (Nat.le_of_ble_eq_true rfl) (Nat.le_of_ble_eq_true rfl) dd_X9_mesh_0.2.2.2.2.1 rfl (fun _ _ hp => hp.2) (fun v_2 hp_4 => ?_)
  obtain ⟨rfl, -⟩ := hp_4
  refine xr_st (st' := [.int x_1, .ref g]) rfl ?_
  obtain ⟨r_6, hE_6, hR⟩ := yf_b hR
  have J_6 : X p l e (yR 7 0 0) s m args below meth c D A H0 2 Q [[(g, .inr (11, [.int gth, .ref gw, .ref gB, .ref gK, .ref gU, .ref gS, .int gbe, .int gwo, .long gta, .ref gn, .int glr, .int glc, .int gti, .int ggo, .ref gR, .int gch, .ref gD]))], [(gw, .inr (10, [.int gwr, .int gwk, .int gwc, .int gwg, .int gws, .ref gwa, .ref gwb]))], [(gwa, .inl (cy 3, gwan, .inr (.inr (.inr (.inr (yad gwad))))))], xg_rows gwad gwan (cy 1) gwak gwaG, [(gwb, .inl (cy 3, gwbn, .inr (.inr (.inr (.inr (yad gwbd))))))], xg_rows gwbd gwbn (cy 1) gwbk gwbG, [(gB, .inl (cy 4, 5, .inr (.inr (.inr (.inr (yad gBd))))))], xg_rows gBd 5 (cy 2) 5 gBG, [(gK, .inl (cy 4, 5, .inr (.inr (.inr (.inr (yad gKd))))))], xg_rows gKd 5 (cy 2) 5 gKG, [(gR, .inl (cy 3, gRn, .inr (.inr (.inr (.inr (yad gRd))))))], xg_rows gRd gRn (cy 1) gRk gRG, [(gn, .inr (10, [.int gnr, .int gnk, .int gnc, .int gng, .int gns, .ref gna, .ref gnb]))], [(gna, .inl (cy 3, gnan, .inr (.inr (.inr (.inr (yad gnad))))))], xg_rows gnad gnan (cy 1) gnak gnaG, [(gnb, .inl (cy 3, gnbn, .inr (.inr (.inr (.inr (yad gnbd))))))], xg_rows gnbd gnbn (cy 1) gnbk gnbG] 0 0 [(0, .ref g), (1, .int i1)] 16 [.int r_6, .ref g] := by
    refine xr_iconst (n := 17) (v := 1) C dd_X9_mesh_0.2.2.2.2.2.2.2.2.2.1 rfl rfl ?_
    obtain ⟨x_7, hx_7, hR⟩ := yf_b hR
    refine xr_callV (n := 20) (As := [.int r_6, .int 1]) (rest := []) C (kX9_start_r l D cy (g := g) (gth := gth) (gw := gw) (gB := gB) (gK := gK) (gU := gU) (gS := gS) (gbe := gbe) (gwo := gwo) (gta := gta) (gn := gn) (glr := glr) (glc := glc) (gti := gti) (ggo := ggo) (gR := gR) (gch := gch) (gD := gD) (i1 := r_6) (i2 := 1) hx_7) mX9_start u_1301 u_1303 u_29 0 rfl rfl 17 [0] [1, 2, 3, 4, 5, 6, 7, 8, 9, 10, 11, 12, 13, 14, 15, 16] rfl (by decide +kernel) rfl rfl rfl rfl (Nat.le_of_ble_eq_true rfl) (Nat.le_of_ble_eq_true rfl) (Nat.le_of_ble_eq_true rfl) (Nat.le_of_ble_eq_true rfl) (Nat.le_of_ble_eq_true rfl) dd_X9_mesh_0.2.2.2.2.2.2.2.2.2.2.1 rfl (fun v_8 u_9 hp_10 => ?_)
    obtain ⟨rfl, rfl⟩ := hp_10
    refine xr_perm C 17 [0, 1, 2, 3, 4, 5, 6, 7, 8, 9, 10, 11, 12, 13, 14, 15, 16] [] [[(g, .inr (11, [.int x_7.2, .ref gw, .ref gB, .ref gK, .ref gU, .ref gS, .int gbe, .int gwo, .long gta, .ref gn, .int glr, .int glc, .int gti, .int ggo, .ref gR, .int gch, .ref gD]))], [(gw, .inr (10, [.int gwr, .int gwk, .int gwc, .int gwg, .int gws, .ref gwa, .ref gwb]))], [(gwa, .inl (cy 3, gwan, .inr (.inr (.inr (.inr (yad gwad))))))], xg_rows gwad gwan (cy 1) gwak gwaG, [(gwb, .inl (cy 3, gwbn, .inr (.inr (.inr (.inr (yad gwbd))))))], xg_rows gwbd gwbn (cy 1) gwbk gwbG, [(gB, .inl (cy 4, 5, .inr (.inr (.inr (.inr (yad gBd))))))], xg_rows gBd 5 (cy 2) 5 gBG, [(gK, .inl (cy 4, 5, .inr (.inr (.inr (.inr (yad gKd))))))], xg_rows gKd 5 (cy 2) 5 gKG, [(gR, .inl (cy 3, gRn, .inr (.inr (.inr (.inr (yad gRd))))))], xg_rows gRd gRn (cy 1) gRk gRG, [(gn, .inr (10, [.int gnr, .int gnk, .int gnc, .int gng, .int gns, .ref gna, .ref gnb]))], [(gna, .inl (cy 3, gnan, .inr (.inr (.inr (.inr (yad gnad))))))], xg_rows gnad gnan (cy 1) gnak gnaG, [(gnb, .inl (cy 3, gnbn, .inr (.inr (.inr (.inr (yad gnbd))))))], xg_rows gnbd gnbn (cy 1) gnbk gnbG] rfl (by decide +kernel) rfl ?_
    refine xr_st (st' := [.int x_7.1]) rfl ?_
    refine xr_if_eq (tgt := 27) (n := 23) C dd_X9_mesh_0.2.2.2.2.2.2.2.2.2.2.2.1 rfl rfl (fun c_11 => ?_) (fun c_11 => ?_)
    · replace hR := yf_t c_11 hR
      refine xr_aload_n (n := 28) (j := 0) C dd_X9_mesh_0.2.2.2.2.2.2.2.2.2.2.2.2.2.2.1 rfl rfl ?_
      refine xr_iload_n (n := 29) (j := 1) C dd_X9_mesh_0.2.2.2.2.2.2.2.2.2.2.2.2.2.2.2.1 rfl rfl ?_
      obtain ⟨x_12, hx_12, hR⟩ := yf_b hR
      refine xr_callVp (n := 32) (As := [.int i1]) (rest := []) C (kX9_meshTold_r l D cy (g := g) (gth := x_7.2) (gw := gw) (gB := gB) (gK := gK) (gU := gU) (gS := gS) (gbe := gbe) (gwo := gwo) (gta := gta) (gn := gn) (glr := glr) (glc := glc) (gti := gti) (ggo := ggo) (gR := gR) (gch := gch) (gD := gD) (gwr := gwr) (gwk := gwk) (gwc := gwc) (gwg := gwg) (gws := gws) (gwa := gwa) (gwb := gwb) (gwad := gwad) (gwan := gwan) (gwak := gwak) (gwaG := gwaG) (gwbd := gwbd) (gwbn := gwbn) (gwbk := gwbk) (gwbG := gwbG) (gBd := gBd) (gBG := gBG) (gKd := gKd) (gKG := gKG) (gRd := gRd) (gRn := gRn) (gRk := gRk) (gRG := gRG) (gnr := gnr) (gnk := gnk) (gnc := gnc) (gng := gng) (gns := gns) (gna := gna) (gnb := gnb) (gnad := gnad) (gnan := gnan) (gnak := gnak) (gnaG := gnaG) (gnbd := gnbd) (gnbn := gnbn) (gnbk := gnbk) (gnbG := gnbG) (i1 := i1) hx_12) mX9_meshTold u_1512 u_1514 u_49 0 rfl rfl 17 [0, 1, 2, 3, 4, 5, 6, 7, 8, 9, 10, 11, 12, 13, 14, 15, 16] [] rfl (by decide +kernel) rfl rfl rfl rfl (Nat.le_of_ble_eq_true rfl) (Nat.le_of_ble_eq_true rfl) (Nat.le_of_ble_eq_true rfl) (Nat.le_of_ble_eq_true rfl) (Nat.le_of_ble_eq_true rfl) dd_X9_mesh_1.1 rfl (fun _ _ hp => hp.2) (fun v_13 hp_15 => ?_)
      obtain ⟨rfl, -⟩ := hp_15
      refine xr_st (st' := [.int x_12]) rfl ?_
      obtain rfl := Option.some.inj hR
      exact ret x_12 ⟨rfl, rfl⟩ (Nat.le_of_ble_eq_true rfl) (Nat.le_of_ble_eq_true rfl) dd_X9_mesh_1.2.1
    · replace hR := yf_f c_11 hR
      refine xr_iconst (n := 24) (v := 0) C dd_X9_mesh_0.2.2.2.2.2.2.2.2.2.2.2.2.1 rfl rfl ?_
      refine xr_goto (tgt := 32) C dd_X9_mesh_0.2.2.2.2.2.2.2.2.2.2.2.2.2.1 rfl ?_
      obtain rfl := Option.some.inj hR
      exact ret 0 ⟨rfl, rfl⟩ (Nat.le_of_ble_eq_true rfl) (Nat.le_of_ble_eq_true rfl) dd_X9_mesh_1.2.1
  refine xr_if_ne (tgt := 15) (n := 11) C dd_X9_mesh_0.2.2.2.2.2.1 rfl rfl (fun c_16 => ?_) (fun c_16 => ?_)
  · replace hE_6 := yf_f c_16 hE_6
    refine xr_iconst (n := 16) (v := 0) C dd_X9_mesh_0.2.2.2.2.2.2.2.2.1 rfl rfl ?_
    have e_17 := Option.some.inj hE_6
    subst e_17
    exact J_6
  · replace hE_6 := yf_t c_16 hE_6
    refine xr_iconst (n := 12) (v := 1) C dd_X9_mesh_0.2.2.2.2.2.2.1 rfl rfl ?_
    refine xr_goto (tgt := 16) C dd_X9_mesh_0.2.2.2.2.2.2.2.1 rfl ?_
    have e_18 := Option.some.inj hE_6
    subst e_18
    exact J_6
theorem dd_X9_placeIn_0 : dk_R cX9_placeIn [(0, .iload_n 0, 1), (1, .iload_n 1, 1), (2, .invokestatic 93, 3), (5, .ifCond .eq 16, 3), (8, .iload_n 0, 1), (9, .iconst 1, 1), (10, .iload_n 1, 1), (11, .ishl, 1), (12, .iconst 1, 1), (13, .isub, 1), (14, .iand, 1), (15, .invokestatic 103, 3), (18, .goto 4, 3), (21, .iconst (-1), 1), (22, .ireturn, 1)] := dk_use _ _ (by decide +kernel)
def fX9_placeIn (i1 : Int32) (i2 : Int32) : Option (Int32) := ((fX9_has i1 i2).bind fun x_1 => (if x_1 = 0 then some (-1) else ((fJ6_bitCount_0f7a4 (i1 &&& (((1 : Int32) <<< (i2 &&& 31)) - 1))).bind fun x_6 => some x_6)))
abbrev hX9_placeIn : Cond := .code yX9_placeIn cX9_placeIn 2 (some .int)
theorem mX9_placeIn : yM yX9_placeIn hX9_placeIn 2 := ⟨u_1530, u_64, by decide +kernel, by decide +kernel, by decide +kernel⟩
set_option maxHeartbeats 4000000 in
set_option maxRecDepth 100000 in
theorem kX9_placeIn (l : Launch) (D : va_G) (cy : Nat → ClassId) (i1 : Int32) (i2 : Int32) {res : Int32} (hR : fX9_placeIn i1 i2 = some res) : YM l D cy yX9_placeIn hX9_placeIn 2 0 0 [.int i1, .int i2] [] (fun v u => v = some (.int res) ∧ u = []) := by
  unfold fX9_placeIn at hR
  refine YM.ofI (cc := cX9_placeIn) (maxL := 2) (ret := (some .int)) (by decide +kernel) rfl (Nat.le_of_ble_eq_true rfl) [(0, .int i1), (1, .int i2)] rfl rfl (fun p e s m args below meth c A H0 Q C hnm ret => ?_)
  refine xr_iload_n (n := 1) (j := 0) C dd_X9_placeIn_0.1 rfl rfl ?_
  refine xr_iload_n (n := 2) (j := 1) C dd_X9_placeIn_0.2.1 rfl rfl ?_
  obtain ⟨x_1, hx_1, hR⟩ := yf_b hR
  refine xr_callSp (n := 5) (As := [.int i1, .int i2]) (rest := []) C (kX9_has l D cy (i1 := i1) (i2 := i2) hx_1) mX9_has u_1377 u_1378 0 [] [] rfl (by decide +kernel) rfl rfl rfl rfl (Nat.le_of_ble_eq_true rfl) (Nat.le_of_ble_eq_true rfl) (Nat.le_of_ble_eq_true rfl) (Nat.le_of_ble_eq_true rfl) (Nat.le_of_ble_eq_true rfl) dd_X9_placeIn_0.2.2.1 rfl (fun _ _ hp => hp.2) (fun v_2 hp_4 => ?_)
  obtain ⟨rfl, -⟩ := hp_4
  refine xr_st (st' := [.int x_1]) rfl ?_
  refine xr_if_eq (tgt := 21) (n := 8) C dd_X9_placeIn_0.2.2.2.1 rfl rfl (fun c_5 => ?_) (fun c_5 => ?_)
  · replace hR := yf_t c_5 hR
    refine xr_iconst (n := 22) (v := -1) C dd_X9_placeIn_0.2.2.2.2.2.2.2.2.2.2.2.2.2.1 rfl rfl ?_
    obtain rfl := Option.some.inj hR
    exact ret (-1) ⟨rfl, rfl⟩ (Nat.le_of_ble_eq_true rfl) (Nat.le_of_ble_eq_true rfl) dd_X9_placeIn_0.2.2.2.2.2.2.2.2.2.2.2.2.2.2.1
  · replace hR := yf_f c_5 hR
    refine xr_iload_n (n := 9) (j := 0) C dd_X9_placeIn_0.2.2.2.2.1 rfl rfl ?_
    refine xr_iconst (n := 10) (v := 1) C dd_X9_placeIn_0.2.2.2.2.2.1 rfl rfl ?_
    refine xr_iload_n (n := 11) (j := 1) C dd_X9_placeIn_0.2.2.2.2.2.2.1 rfl rfl ?_
    refine xr_ishl (n := 12) C dd_X9_placeIn_0.2.2.2.2.2.2.2.1 rfl ?_
    refine xr_iconst (n := 13) (v := 1) C dd_X9_placeIn_0.2.2.2.2.2.2.2.2.1 rfl rfl ?_
    refine xr_isub (n := 14) C dd_X9_placeIn_0.2.2.2.2.2.2.2.2.2.1 rfl ?_
    refine xr_iand (n := 15) C dd_X9_placeIn_0.2.2.2.2.2.2.2.2.2.2.1 rfl ?_
    obtain ⟨x_6, hx_6, hR⟩ := yf_b hR
    refine xr_callSp (n := 18) (As := [.int (i1 &&& (((1 : Int32) <<< (i2 &&& 31)) - 1))]) (rest := []) C (kJ6_bitCount_0f7a4 l D cy (i1 := i1 &&& (((1 : Int32) <<< (i2 &&& 31)) - 1)) hx_6) mJ6_bitCount_0f7a4 u_1383 u_349 0 [] [] rfl (by decide +kernel) rfl rfl rfl rfl (Nat.le_of_ble_eq_true rfl) (Nat.le_of_ble_eq_true rfl) (Nat.le_of_ble_eq_true rfl) (Nat.le_of_ble_eq_true rfl) (Nat.le_of_ble_eq_true rfl) dd_X9_placeIn_0.2.2.2.2.2.2.2.2.2.2.2.1 rfl (fun _ _ hp => hp.2) (fun v_7 hp_9 => ?_)
    obtain ⟨rfl, -⟩ := hp_9
    refine xr_st (st' := [.int x_6]) rfl ?_
    refine xr_goto (tgt := 22) C dd_X9_placeIn_0.2.2.2.2.2.2.2.2.2.2.2.2.1 rfl ?_
    obtain rfl := Option.some.inj hR
    exact ret x_6 ⟨rfl, rfl⟩ (Nat.le_of_ble_eq_true rfl) (Nat.le_of_ble_eq_true rfl) dd_X9_placeIn_0.2.2.2.2.2.2.2.2.2.2.2.2.2.2.1
theorem dd_X9_does_0 : dk_R cX9_does [(0, .aload_n 0, 1), (1, .getfield 137, 3), (4, .ifnull 59, 3), (7, .aload_n 0, 1), (8, .getfield 146, 3), (11, .iload_n 1, 1), (12, .invokestatic 93, 3), (15, .ifCond .eq 48, 3), (18, .aload_n 0, 1), (19, .getfield 149, 3), (22, .iload_n 2, 1), (23, .invokestatic 93, 3), (26, .ifCond .eq 37, 3), (29, .aload_n 0, 1), (30, .getfield 146, 3), (33, .iload_n 1, 1)] := dk_use _ _ (by decide +kernel)
theorem dd_X9_does_1 : dk_R cX9_does [(34, .invokestatic 244, 3), (37, .aload_n 0, 1), (38, .invokevirtual 161, 3), (41, .if_icmp .ge 22, 3), (44, .aload_n 0, 1), (45, .getfield 149, 3), (48, .iload_n 2, 1), (49, .invokestatic 244, 3), (52, .aload_n 0, 1), (53, .invokevirtual 164, 3), (56, .if_icmp .ge 7, 3), (59, .iconst 1, 1), (60, .goto 4, 3), (63, .iconst 0, 1), (64, .ireturn, 1)] := dk_use _ _ (by decide +kernel)
def fX9_does_i  : Option (Int32) := some 0
abbrev hX9_does : Cond := .code yX9_does cX9_does 3 (some .boolean)
theorem mX9_does : yM yX9_does hX9_does 2 := ⟨u_1527, u_64, by decide +kernel, by decide +kernel, by decide +kernel⟩
set_option maxHeartbeats 4000000 in
set_option maxRecDepth 100000 in
theorem kX9_does_i (l : Launch) (D : va_G) (cy : Nat → ClassId) (g : Nat) (gth : Int32) (gw : Nat) (gB : Nat) (gK : Nat) (gU : Nat) (gS : Nat) (gbe : Int32) (gwo : Int32) (gta : Int64) (glr : Int32) (glc : Int32) (gti : Int32) (ggo : Int32) (gR : Nat) (gch : Int32) (gD : Nat) (i1 : Int32) (i2 : Int32) {res : Int32} (hR : fX9_does_i  = some res) : YM l D cy yX9_does hX9_does 1 0 0 [.ref g, .int i1, .int i2] [[(g, .inr (11, [.int gth, .ref gw, .ref gB, .ref gK, .ref gU, .ref gS, .int gbe, .int gwo, .long gta, .null, .int glr, .int glc, .int gti, .int ggo, .ref gR, .int gch, .ref gD]))]] (fun v u => v = some (.int res) ∧ u = [[(g, .inr (11, [.int gth, .ref gw, .ref gB, .ref gK, .ref gU, .ref gS, .int gbe, .int gwo, .long gta, .null, .int glr, .int glc, .int gti, .int ggo, .ref gR, .int gch, .ref gD]))]]) := by
  unfold fX9_does_i at hR
  refine YM.ofZ (cc := cX9_does) (maxL := 3) (ret := (some .boolean)) (by decide +kernel) rfl (Nat.le_of_ble_eq_true rfl) [(0, .ref g), (1, .int i1), (2, .int i2)] rfl .boolean rfl (fun p e s m args below meth c A H0 Q C hnm ret => ?_)
  refine xr_aload_n (n := 1) (j := 0) C dd_X9_does_0.1 rfl rfl ?_
  refine xr_get (n := 4) C 0 rfl rfl 9 (by decide) in_X9 u_1246 rfl (v := .null) rfl dd_X9_does_0.2.1 rfl ?_
  refine xr_ifnullN (tgt := 63) C dd_X9_does_0.2.2.1 rfl ?_
  refine xr_iconst (n := 64) (v := 0) C dd_X9_does_1.2.2.2.2.2.2.2.2.2.2.2.2.2.1 rfl rfl ?_
  obtain rfl := Option.some.inj hR
  exact ret 0 (by decide) ⟨rfl, rfl⟩ (Nat.le_of_ble_eq_true rfl) (Nat.le_of_ble_eq_true rfl) dd_X9_does_1.2.2.2.2.2.2.2.2.2.2.2.2.2.2.1
