theorem u_1508 : Cond.methodLink RX9 241 yX9_meshTold ∈ yU := yu_tables_1_7 12 (by decide +kernel) (by decide +kernel)
theorem u_1510 : Cond.instanceMethod yX9_meshTold ∈ yU := yu_tables_1_7 14 (by decide +kernel) (by decide +kernel)
theorem u_49 : Cond.selects RX9 yX9_meshTold yX9_meshTold ∈ yU := yu 49 (by decide +kernel) (by decide +kernel)
theorem u_1507 : Cond.code yX9_mesh cX9_mesh 2 (some .int) ∈ yU := yu_tables_1_7 11 (by decide +kernel) (by decide +kernel)
theorem u_1526 : Cond.code yX9_placeIn cX9_placeIn 2 (some .int) ∈ yU := yu_tables_1_7 30 (by decide +kernel) (by decide +kernel)
theorem u_1523 : Cond.code yX9_does cX9_does 3 (some .boolean) ∈ yU := yu_tables_1_7 27 (by decide +kernel) (by decide +kernel)
theorem u_1524 : Cond.methodLink RX9 244 yX9_placeIn ∈ yU := yu_tables_1_7 28 (by decide +kernel) (by decide +kernel)
theorem u_1525 : Cond.static yX9_placeIn ∈ yU := yu_tables_1_7 29 (by decide +kernel) (by decide +kernel)
theorem u_1241 : Cond.fieldLink RX9 32 "PulsemeshModel" "uses" "[[I" ∈ yU := yu_tables_1_5 225 (by decide +kernel) (by decide +kernel)
theorem u_1520 : Cond.methodLink RX9 247 yX9_does ∈ yU := yu_tables_1_7 24 (by decide +kernel) (by decide +kernel)
theorem u_1522 : Cond.instanceMethod yX9_does ∈ yU := yu_tables_1_7 26 (by decide +kernel) (by decide +kernel)
theorem u_51 : Cond.selects RX9 yX9_does yX9_does ∈ yU := yu 51 (by decide +kernel) (by decide +kernel)
theorem u_1519 : Cond.code yX9_cellTold cX9_cellTold 4 (some .int) ∈ yU := yu_tables_1_7 23 (by decide +kernel) (by decide +kernel)
theorem dd_X9_mesh_0 : dk_R cX9_mesh [(0, .aload_n 0, 1), (1, .iload_n 1, 1), (2, .iconst 0, 1), (3, .bipush 15, 2), (5, .invokestatic 75, 3), (8, .ifCond .ne 7, 3), (11, .iconst 1, 1), (12, .goto 4, 3), (15, .iconst 0, 1), (16, .iconst 1, 1), (17, .invokevirtual 79, 3), (20, .ifCond .eq 7, 3), (23, .iconst 0, 1), (24, .goto 8, 3), (27, .aload_n 0, 1), (28, .iload_n 1, 1)] := dk_use _ _ (by decide +kernel)
theorem dd_X9_mesh_1 : dk_R cX9_mesh [(29, .invokevirtual 241, 3), (32, .ireturn, 1)] := dk_use _ _ (by decide +kernel)
def fX9_mesh_i (gbe : Int32) (gwo : Int32) (gwr : Int32) (gwk : Int32) (gwc : Int32) (gwg : Int32) (gws : Int32) (gwan : Nat) (gwak : Nat) (gwaG : Nat → Nat → Int32) (gwbn : Nat) (gwbk : Nat) (gwbG : Nat → Nat → Int32) (gBG : Nat → Nat → Int32) (gKG : Nat → Nat → Int32) (gRn : Nat) (gRk : Nat) (i1 : Int32) : Option (Int32 × Int32) := ((fX9_isIn i1 0 15).bind fun x_1 => ((((if x_1 = 0 then some 1 else some 0) : Option (Int32))).bind fun r_6 => ((fX9_start_i r_6 1).bind fun x_7 => (if x_7.1 = 0 then ((fX9_meshTold_i gbe gwo gwr gwk gwc gwg gws gwan gwak gwaG gwbn gwbk gwbG gBG gKG gRn gRk i1).bind fun x_12 => some (x_12, x_7.2)) else some (0, x_7.2)))))
abbrev hX9_mesh : Cond := .code yX9_mesh cX9_mesh 2 (some .int)
theorem mX9_mesh : yM yX9_mesh hX9_mesh 1 := ⟨u_1507, u_64, by decide +kernel, by decide +kernel, by decide +kernel⟩
set_option maxHeartbeats 4000000 in
set_option maxRecDepth 100000 in
theorem kX9_mesh_i (l : Launch) (D : va_G) (cy : Nat → ClassId) (g : Nat) (gth : Int32) (gw : Nat) (gB : Nat) (gK : Nat) (gU : Nat) (gS : Nat) (gbe : Int32) (gwo : Int32) (gta : Int64) (glr : Int32) (glc : Int32) (gti : Int32) (ggo : Int32) (gR : Nat) (gch : Int32) (gD : Nat) (gwr : Int32) (gwk : Int32) (gwc : Int32) (gwg : Int32) (gws : Int32) (gwa : Nat) (gwb : Nat) (gwad : Nat → Nat) (gwan : Nat) (gwak : Nat) (gwaG : Nat → Nat → Int32) (gwbd : Nat → Nat) (gwbn : Nat) (gwbk : Nat) (gwbG : Nat → Nat → Int32) (gBd : Nat → Nat) (gBG : Nat → Nat → Int32) (gKd : Nat → Nat) (gKG : Nat → Nat → Int32) (gRd : Nat → Nat) (gRn : Nat) (gRk : Nat) (gRG : Nat → Nat → Int32) (i1 : Int32) {res : Int32 × Int32} (hR : fX9_mesh_i gbe gwo gwr gwk gwc gwg gws gwan gwak gwaG gwbn gwbk gwbG gBG gKG gRn gRk i1 = some res) : YM l D cy yX9_mesh hX9_mesh 7 0 0 [.ref g, .int i1] [[(g, .inr (11, [.int gth, .ref gw, .ref gB, .ref gK, .ref gU, .ref gS, .int gbe, .int gwo, .long gta, .null, .int glr, .int glc, .int gti, .int ggo, .ref gR, .int gch, .ref gD]))], [(gw, .inr (10, [.int gwr, .int gwk, .int gwc, .int gwg, .int gws, .ref gwa, .ref gwb]))], [(gwa, .inl (cy 3, gwan, .inr (.inr (.inr (.inr (yad gwad))))))], xg_rows gwad gwan (cy 1) gwak gwaG, [(gwb, .inl (cy 3, gwbn, .inr (.inr (.inr (.inr (yad gwbd))))))], xg_rows gwbd gwbn (cy 1) gwbk gwbG, [(gB, .inl (cy 4, 5, .inr (.inr (.inr (.inr (yad gBd))))))], xg_rows gBd 5 (cy 2) 5 gBG, [(gK, .inl (cy 4, 5, .inr (.inr (.inr (.inr (yad gKd))))))], xg_rows gKd 5 (cy 2) 5 gKG, [(gR, .inl (cy 3, gRn, .inr (.inr (.inr (.inr (yad gRd))))))], xg_rows gRd gRn (cy 1) gRk gRG] (fun v u => v = some (.int res.1) ∧ u = [[(g, .inr (11, [.int res.2, .ref gw, .ref gB, .ref gK, .ref gU, .ref gS, .int gbe, .int gwo, .long gta, .null, .int glr, .int glc, .int gti, .int ggo, .ref gR, .int gch, .ref gD]))], [(gw, .inr (10, [.int gwr, .int gwk, .int gwc, .int gwg, .int gws, .ref gwa, .ref gwb]))], [(gwa, .inl (cy 3, gwan, .inr (.inr (.inr (.inr (yad gwad))))))], xg_rows gwad gwan (cy 1) gwak gwaG, [(gwb, .inl (cy 3, gwbn, .inr (.inr (.inr (.inr (yad gwbd))))))], xg_rows gwbd gwbn (cy 1) gwbk gwbG, [(gB, .inl (cy 4, 5, .inr (.inr (.inr (.inr (yad gBd))))))], xg_rows gBd 5 (cy 2) 5 gBG, [(gK, .inl (cy 4, 5, .inr (.inr (.inr (.inr (yad gKd))))))], xg_rows gKd 5 (cy 2) 5 gKG, [(gR, .inl (cy 3, gRn, .inr (.inr (.inr (.inr (yad gRd))))))], xg_rows gRd gRn (cy 1) gRk gRG]) := by
  unfold fX9_mesh_i at hR
  refine YM.ofI (cc := cX9_mesh) (maxL := 2) (ret := (some .int)) (by decide +kernel) rfl (Nat.le_of_ble_eq_true rfl) [(0, .ref g), (1, .int i1)] rfl rfl (fun p e s m args below meth c A H0 Q C hnm ret => ?_)
  refine xr_aload_n (n := 1) (j := 0) C dd_X9_mesh_0.1 rfl rfl ?_
  refine xr_iload_n (n := 2) (j := 1) C dd_X9_mesh_0.2.1 rfl rfl ?_
  refine xr_iconst (n := 3) (v := 0) C dd_X9_mesh_0.2.2.1 rfl rfl ?_
  refine xr_bipush (n := 5) (v := 15) C dd_X9_mesh_0.2.2.2.1 rfl rfl ?_
  obtain ⟨x_1, hx_1, hR⟩ := yf_b hR
  refine xr_callSp (n := 8) (As := [.int i1, .int 0, .int 15]) (rest := [.ref g]) C (kX9_isIn l D cy (i1 := i1) (i2 := 0) (i3 := 15) hx_1) mX9_isIn u_1294 u_1295 12 [] [0, 1, 2, 3, 4, 5, 6, 7, 8, 9, 10, 11] rfl (by decide +kernel) rfl rfl rfl rfl (Nat.le_of_ble_eq_true rfl) (Nat.le_of_ble_eq_true rfl) (Nat.le_of_ble_eq_true rfl) (Nat.le_of_ble_eq_true rfl) (Nat.le_of_ble_eq_true rfl) dd_X9_mesh_0.2.2.2.2.1 rfl (fun _ _ hp => hp.2) (fun v_2 hp_4 => ?_)
  obtain ⟨rfl, -⟩ := hp_4
  refine xr_st (st' := [.int x_1, .ref g]) rfl ?_
  obtain ⟨r_6, hE_6, hR⟩ := yf_b hR
  have J_6 : X p l e (yR 7 0 0) s m args below meth c D A H0 2 Q [[(g, .inr (11, [.int gth, .ref gw, .ref gB, .ref gK, .ref gU, .ref gS, .int gbe, .int gwo, .long gta, .null, .int glr, .int glc, .int gti, .int ggo, .ref gR, .int gch, .ref gD]))], [(gw, .inr (10, [.int gwr, .int gwk, .int gwc, .int gwg, .int gws, .ref gwa, .ref gwb]))], [(gwa, .inl (cy 3, gwan, .inr (.inr (.inr (.inr (yad gwad))))))], xg_rows gwad gwan (cy 1) gwak gwaG, [(gwb, .inl (cy 3, gwbn, .inr (.inr (.inr (.inr (yad gwbd))))))], xg_rows gwbd gwbn (cy 1) gwbk gwbG, [(gB, .inl (cy 4, 5, .inr (.inr (.inr (.inr (yad gBd))))))], xg_rows gBd 5 (cy 2) 5 gBG, [(gK, .inl (cy 4, 5, .inr (.inr (.inr (.inr (yad gKd))))))], xg_rows gKd 5 (cy 2) 5 gKG, [(gR, .inl (cy 3, gRn, .inr (.inr (.inr (.inr (yad gRd))))))], xg_rows gRd gRn (cy 1) gRk gRG] 0 0 [(0, .ref g), (1, .int i1)] 16 [.int r_6, .ref g] := by
    refine xr_iconst (n := 17) (v := 1) C dd_X9_mesh_0.2.2.2.2.2.2.2.2.2.1 rfl rfl ?_
    obtain ⟨x_7, hx_7, hR⟩ := yf_b hR
    refine xr_callV (n := 20) (As := [.int r_6, .int 1]) (rest := []) C (kX9_start_i l D cy (g := g) (gth := gth) (gw := gw) (gB := gB) (gK := gK) (gU := gU) (gS := gS) (gbe := gbe) (gwo := gwo) (gta := gta) (glr := glr) (glc := glc) (gti := gti) (ggo := ggo) (gR := gR) (gch := gch) (gD := gD) (i1 := r_6) (i2 := 1) hx_7) mX9_start u_1297 u_1299 u_29 0 rfl rfl 12 [0] [1, 2, 3, 4, 5, 6, 7, 8, 9, 10, 11] rfl (by decide +kernel) rfl rfl rfl rfl (Nat.le_of_ble_eq_true rfl) (Nat.le_of_ble_eq_true rfl) (Nat.le_of_ble_eq_true rfl) (Nat.le_of_ble_eq_true rfl) (Nat.le_of_ble_eq_true rfl) dd_X9_mesh_0.2.2.2.2.2.2.2.2.2.2.1 rfl (fun v_8 u_9 hp_10 => ?_)
    obtain ⟨rfl, rfl⟩ := hp_10
    refine xr_perm C 12 [0, 1, 2, 3, 4, 5, 6, 7, 8, 9, 10, 11] [] [[(g, .inr (11, [.int x_7.2, .ref gw, .ref gB, .ref gK, .ref gU, .ref gS, .int gbe, .int gwo, .long gta, .null, .int glr, .int glc, .int gti, .int ggo, .ref gR, .int gch, .ref gD]))], [(gw, .inr (10, [.int gwr, .int gwk, .int gwc, .int gwg, .int gws, .ref gwa, .ref gwb]))], [(gwa, .inl (cy 3, gwan, .inr (.inr (.inr (.inr (yad gwad))))))], xg_rows gwad gwan (cy 1) gwak gwaG, [(gwb, .inl (cy 3, gwbn, .inr (.inr (.inr (.inr (yad gwbd))))))], xg_rows gwbd gwbn (cy 1) gwbk gwbG, [(gB, .inl (cy 4, 5, .inr (.inr (.inr (.inr (yad gBd))))))], xg_rows gBd 5 (cy 2) 5 gBG, [(gK, .inl (cy 4, 5, .inr (.inr (.inr (.inr (yad gKd))))))], xg_rows gKd 5 (cy 2) 5 gKG, [(gR, .inl (cy 3, gRn, .inr (.inr (.inr (.inr (yad gRd))))))], xg_rows gRd gRn (cy 1) gRk gRG] rfl (by decide +kernel) rfl ?_
    refine xr_st (st' := [.int x_7.1]) rfl ?_
    refine xr_if_eq (tgt := 27) (n := 23) C dd_X9_mesh_0.2.2.2.2.2.2.2.2.2.2.2.1 rfl rfl (fun c_11 => ?_) (fun c_11 => ?_)
    · replace hR := yf_t c_11 hR
      refine xr_aload_n (n := 28) (j := 0) C dd_X9_mesh_0.2.2.2.2.2.2.2.2.2.2.2.2.2.2.1 rfl rfl ?_
      refine xr_iload_n (n := 29) (j := 1) C dd_X9_mesh_0.2.2.2.2.2.2.2.2.2.2.2.2.2.2.2.1 rfl rfl ?_
      obtain ⟨x_12, hx_12, hR⟩ := yf_b hR
      refine xr_callVp (n := 32) (As := [.int i1]) (rest := []) C (kX9_meshTold_i l D cy (g := g) (gth := x_7.2) (gw := gw) (gB := gB) (gK := gK) (gU := gU) (gS := gS) (gbe := gbe) (gwo := gwo) (gta := gta) (glr := glr) (glc := glc) (gti := gti) (ggo := ggo) (gR := gR) (gch := gch) (gD := gD) (gwr := gwr) (gwk := gwk) (gwc := gwc) (gwg := gwg) (gws := gws) (gwa := gwa) (gwb := gwb) (gwad := gwad) (gwan := gwan) (gwak := gwak) (gwaG := gwaG) (gwbd := gwbd) (gwbn := gwbn) (gwbk := gwbk) (gwbG := gwbG) (gBd := gBd) (gBG := gBG) (gKd := gKd) (gKG := gKG) (gRd := gRd) (gRn := gRn) (gRk := gRk) (gRG := gRG) (i1 := i1) hx_12) mX9_meshTold u_1508 u_1510 u_49 0 rfl rfl 12 [0, 1, 2, 3, 4, 5, 6, 7, 8, 9, 10, 11] [] rfl (by decide +kernel) rfl rfl rfl rfl (Nat.le_of_ble_eq_true rfl) (Nat.le_of_ble_eq_true rfl) (Nat.le_of_ble_eq_true rfl) (Nat.le_of_ble_eq_true rfl) (Nat.le_of_ble_eq_true rfl) dd_X9_mesh_1.1 rfl (fun _ _ hp => hp.2) (fun v_13 hp_15 => ?_)
      obtain ⟨rfl, -⟩ := hp_15
      refine xr_st (st' := [.int x_12]) rfl ?_
      obtain rfl := Option.some.inj hR
      exact ret x_12 ⟨rfl, rfl⟩ (Nat.le_of_ble_eq_true rfl) (Nat.le_of_ble_eq_true rfl) dd_X9_mesh_1.2.1
    · replace hR := yf_f c_11 hR
      refine xr_iconst (n := 24) (v := 0) C dd_X9_mesh_0.2.2.2.2.2.2.2.2.2.2.2.2.1 rfl rfl ?_
      refine xr_goto (tgt := 32) C dd_X9_mesh_0.2.2.2.2.2.2.2.2.2.2.2.2.2.1 rfl ?_
      obtain rfl := Option.some.inj hR
      exact ret 0 ⟨rfl, rfl⟩ (Nat.le_of_ble_eq_true rfl) (Nat.le_of_ble_eq_true rfl) dd_X9_mesh_1.2.1
  refine xr_if_ne (tgt := 15) (n := 11) C dd_X9_mesh_0.2.2.2.2.2.1 rfl rfl (fun c_16 => ?_) (fun c_16 => ?_)
  · replace hE_6 := yf_f c_16 hE_6
    refine xr_iconst (n := 16) (v := 0) C dd_X9_mesh_0.2.2.2.2.2.2.2.2.1 rfl rfl ?_
    have e_17 := Option.some.inj hE_6
    subst e_17
    exact J_6
  · replace hE_6 := yf_t c_16 hE_6
    refine xr_iconst (n := 12) (v := 1) C dd_X9_mesh_0.2.2.2.2.2.2.1 rfl rfl ?_
    refine xr_goto (tgt := 16) C dd_X9_mesh_0.2.2.2.2.2.2.2.1 rfl ?_
    have e_18 := Option.some.inj hE_6
    subst e_18
    exact J_6
def fX9_mesh_r (gbe : Int32) (gwo : Int32) (glr : Int32) (glc : Int32) (gti : Int32) (ggo : Int32) (gwr : Int32) (gwk : Int32) (gwc : Int32) (gwg : Int32) (gws : Int32) (gwan : Nat) (gwak : Nat) (gwaG : Nat → Nat → Int32) (gwbn : Nat) (gwbk : Nat) (gwbG : Nat → Nat → Int32) (gBG : Nat → Nat → Int32) (gKG : Nat → Nat → Int32) (gRn : Nat) (gRk : Nat) (gnr : Int32) (gnk : Int32) (gnc : Int32) (gng : Int32) (gns : Int32) (gnan : Nat) (gnak : Nat) (gnaG : Nat → Nat → Int32) (gnbn : Nat) (gnbk : Nat) (gnbG : Nat → Nat → Int32) (i1 : Int32) : Option (Int32 × Int32) := ((fX9_isIn i1 0 15).bind fun x_1 => ((((if x_1 = 0 then some 1 else some 0) : Option (Int32))).bind fun r_6 => ((fX9_start_r r_6 1).bind fun x_7 => (if x_7.1 = 0 then ((fX9_meshTold_r gbe gwo glr glc gti ggo gwr gwk gwc gwg gws gwan gwak gwaG gwbn gwbk gwbG gBG gKG gRn gRk gnr gnk gnc gng gns gnan gnak gnaG gnbn gnbk gnbG i1).bind fun x_12 => some (x_12, x_7.2)) else some (0, x_7.2)))))
set_option maxHeartbeats 4000000 in
set_option maxRecDepth 100000 in
theorem kX9_mesh_r (l : Launch) (D : va_G) (cy : Nat → ClassId) (g : Nat) (gth : Int32) (gw : Nat) (gB : Nat) (gK : Nat) (gU : Nat) (gS : Nat) (gbe : Int32) (gwo : Int32) (gta : Int64) (gn : Nat) (glr : Int32) (glc : Int32) (gti : Int32) (ggo : Int32) (gR : Nat) (gch : Int32) (gD : Nat) (gwr : Int32) (gwk : Int32) (gwc : Int32) (gwg : Int32) (gws : Int32) (gwa : Nat) (gwb : Nat) (gwad : Nat → Nat) (gwan : Nat) (gwak : Nat) (gwaG : Nat → Nat → Int32) (gwbd : Nat → Nat) (gwbn : Nat) (gwbk : Nat) (gwbG : Nat → Nat → Int32) (gBd : Nat → Nat) (gBG : Nat → Nat → Int32) (gKd : Nat → Nat) (gKG : Nat → Nat → Int32) (gRd : Nat → Nat) (gRn : Nat) (gRk : Nat) (gRG : Nat → Nat → Int32) (gnr : Int32) (gnk : Int32) (gnc : Int32) (gng : Int32) (gns : Int32) (gna : Nat) (gnb : Nat) (gnad : Nat → Nat) (gnan : Nat) (gnak : Nat) (gnaG : Nat → Nat → Int32) (gnbd : Nat → Nat) (gnbn : Nat) (gnbk : Nat) (gnbG : Nat → Nat → Int32) (i1 : Int32) {res : Int32 × Int32} (hR : fX9_mesh_r gbe gwo glr glc gti ggo gwr gwk gwc gwg gws gwan gwak gwaG gwbn gwbk gwbG gBG gKG gRn gRk gnr gnk gnc gng gns gnan gnak gnaG gnbn gnbk gnbG i1 = some res) : YM l D cy yX9_mesh hX9_mesh 7 0 0 [.ref g, .int i1] [[(g, .inr (11, [.int gth, .ref gw, .ref gB, .ref gK, .ref gU, .ref gS, .int gbe, .int gwo, .long gta, .ref gn, .int glr, .int glc, .int gti, .int ggo, .ref gR, .int gch, .ref gD]))], [(gw, .inr (10, [.int gwr, .int gwk, .int gwc, .int gwg, .int gws, .ref gwa, .ref gwb]))], [(gwa, .inl (cy 3, gwan, .inr (.inr (.inr (.inr (yad gwad))))))], xg_rows gwad gwan (cy 1) gwak gwaG, [(gwb, .inl (cy 3, gwbn, .inr (.inr (.inr (.inr (yad gwbd))))))], xg_rows gwbd gwbn (cy 1) gwbk gwbG, [(gB, .inl (cy 4, 5, .inr (.inr (.inr (.inr (yad gBd))))))], xg_rows gBd 5 (cy 2) 5 gBG, [(gK, .inl (cy 4, 5, .inr (.inr (.inr (.inr (yad gKd))))))], xg_rows gKd 5 (cy 2) 5 gKG, [(gR, .inl (cy 3, gRn, .inr (.inr (.inr (.inr (yad gRd))))))], xg_rows gRd gRn (cy 1) gRk gRG, [(gn, .inr (10, [.int gnr, .int gnk, .int gnc, .int gng, .int gns, .ref gna, .ref gnb]))], [(gna, .inl (cy 3, gnan, .inr (.inr (.inr (.inr (yad gnad))))))], xg_rows gnad gnan (cy 1) gnak gnaG, [(gnb, .inl (cy 3, gnbn, .inr (.inr (.inr (.inr (yad gnbd))))))], xg_rows gnbd gnbn (cy 1) gnbk gnbG] (fun v u => v = some (.int res.1) ∧ u = [[(g, .inr (11, [.int res.2, .ref gw, .ref gB, .ref gK, .ref gU, .ref gS, .int gbe, .int gwo, .long gta, .ref gn, .int glr, .int glc, .int gti, .int ggo, .ref gR, .int gch, .ref gD]))], [(gw, .inr (10, [.int gwr, .int gwk, .int gwc, .int gwg, .int gws, .ref gwa, .ref gwb]))], [(gwa, .inl (cy 3, gwan, .inr (.inr (.inr (.inr (yad gwad))))))], xg_rows gwad gwan (cy 1) gwak gwaG, [(gwb, .inl (cy 3, gwbn, .inr (.inr (.inr (.inr (yad gwbd))))))], xg_rows gwbd gwbn (cy 1) gwbk gwbG, [(gB, .inl (cy 4, 5, .inr (.inr (.inr (.inr (yad gBd))))))], xg_rows gBd 5 (cy 2) 5 gBG, [(gK, .inl (cy 4, 5, .inr (.inr (.inr (.inr (yad gKd))))))], xg_rows gKd 5 (cy 2) 5 gKG, [(gR, .inl (cy 3, gRn, .inr (.inr (.inr (.inr (yad gRd))))))], xg_rows gRd gRn (cy 1) gRk gRG, [(gn, .inr (10, [.int gnr, .int gnk, .int gnc, .int gng, .int gns, .ref gna, .ref gnb]))], [(gna, .inl (cy 3, gnan, .inr (.inr (.inr (.inr (yad gnad))))))], xg_rows gnad gnan (cy 1) gnak gnaG, [(gnb, .inl (cy 3, gnbn, .inr (.inr (.inr (.inr (yad gnbd))))))], xg_rows gnbd gnbn (cy 1) gnbk gnbG]) := by
  unfold fX9_mesh_r at hR
  refine YM.ofI (cc := cX9_mesh) (maxL := 2) (ret := (some .int)) (by decide +kernel) rfl (Nat.le_of_ble_eq_true rfl) [(0, .ref g), (1, .int i1)] rfl rfl (fun p e s m args below meth c A H0 Q C hnm ret => ?_)
  refine xr_aload_n (n := 1) (j := 0) C dd_X9_mesh_0.1 rfl rfl ?_
  refine xr_iload_n (n := 2) (j := 1) C dd_X9_mesh_0.2.1 rfl rfl ?_
  refine xr_iconst (n := 3) (v := 0) C dd_X9_mesh_0.2.2.1 rfl rfl ?_
  refine xr_bipush (n := 5) (v := 15) C dd_X9_mesh_0.2.2.2.1 rfl rfl ?_
  obtain ⟨x_1, hx_1, hR⟩ := yf_b hR
  refine xr_callSp (n := 8) (As := [.int i1, .int 0, .int 15]) (rest := [.ref g]) C (kX9_isIn l D cy (i1 := i1) (i2 := 0) (i3 := 15) hx_1) mX9_isIn u_1294 u_1295 17 [] [0, 1, 2, 3, 4, 5, 6, 7, 8, 9, 10, 11, 12, 13, 14, 15, 16] rfl (by decide +kernel) rfl rfl rfl rfl (Nat.le_of_ble_eq_true rfl) (Nat.le_of_ble_eq_true rfl) (Nat.le_of_ble_eq_true rfl) (Nat.le_of_ble_eq_true rfl) (Nat.le_of_ble_eq_true rfl) dd_X9_mesh_0.2.2.2.2.1 rfl (fun _ _ hp => hp.2) (fun v_2 hp_4 => ?_)
  obtain ⟨rfl, -⟩ := hp_4
  refine xr_st (st' := [.int x_1, .ref g]) rfl ?_
  obtain ⟨r_6, hE_6, hR⟩ := yf_b hR
  have J_6 : X p l e (yR 7 0 0) s m args below meth c D A H0 2 Q [[(g, .inr (11, [.int gth, .ref gw, .ref gB, .ref gK, .ref gU, .ref gS, .int gbe, .int gwo, .long gta, .ref gn, .int glr, .int glc, .int gti, .int ggo, .ref gR, .int gch, .ref gD]))], [(gw, .inr (10, [.int gwr, .int gwk, .int gwc, .int gwg, .int gws, .ref gwa, .ref gwb]))], [(gwa, .inl (cy 3, gwan, .inr (.inr (.inr (.inr (yad gwad))))))], xg_rows gwad gwan (cy 1) gwak gwaG, [(gwb, .inl (cy 3, gwbn, .inr (.inr (.inr (.inr (yad gwbd))))))], xg_rows gwbd gwbn (cy 1) gwbk gwbG, [(gB, .inl (cy 4, 5, .inr (.inr (.inr (.inr (yad gBd))))))], xg_rows gBd 5 (cy 2) 5 gBG, [(gK, .inl (cy 4, 5, .inr (.inr (.inr (.inr (yad gKd))))))], xg_rows gKd 5 (cy 2) 5 gKG, [(gR, .inl (cy 3, gRn, .inr (.inr (.inr (.inr (yad gRd))))))], xg_rows gRd gRn (cy 1) gRk gRG, [(gn, .inr (10, [.int gnr, .int gnk, .int gnc, .int gng, .int gns, .ref gna, .ref gnb]))], [(gna, .inl (cy 3, gnan, .inr (.inr (.inr (.inr (yad gnad))))))], xg_rows gnad gnan (cy 1) gnak gnaG, [(gnb, .inl (cy 3, gnbn, .inr (.inr (.inr (.inr (yad gnbd))))))], xg_rows gnbd gnbn (cy 1) gnbk gnbG] 0 0 [(0, .ref g), (1, .int i1)] 16 [.int r_6, .ref g] := by
    refine xr_iconst (n := 17) (v := 1) C dd_X9_mesh_0.2.2.2.2.2.2.2.2.2.1 rfl rfl ?_
    obtain ⟨x_7, hx_7, hR⟩ := yf_b hR
    refine xr_callV (n := 20) (As := [.int r_6, .int 1]) (rest := []) C (kX9_start_r l D cy (g := g) (gth := gth) (gw := gw) (gB := gB) (gK := gK) (gU := gU) (gS := gS) (gbe := gbe) (gwo := gwo) (gta := gta) (gn := gn) (glr := glr) (glc := glc) (gti := gti) (ggo := ggo) (gR := gR) (gch := gch) (gD := gD) (i1 := r_6) (i2 := 1) hx_7) mX9_start u_1297 u_1299 u_29 0 rfl rfl 17 [0] [1, 2, 3, 4, 5, 6, 7, 8, 9, 10, 11, 12, 13, 14, 15, 16] rfl (by decide +kernel) rfl rfl rfl rfl (Nat.le_of_ble_eq_true rfl) (Nat.le_of_ble_eq_true rfl) (Nat.le_of_ble_eq_true rfl) (Nat.le_of_ble_eq_true rfl) (Nat.le_of_ble_eq_true rfl) dd_X9_mesh_0.2.2.2.2.2.2.2.2.2.2.1 rfl (fun v_8 u_9 hp_10 => ?_)
    obtain ⟨rfl, rfl⟩ := hp_10
    refine xr_perm C 17 [0, 1, 2, 3, 4, 5, 6, 7, 8, 9, 10, 11, 12, 13, 14, 15, 16] [] [[(g, .inr (11, [.int x_7.2, .ref gw, .ref gB, .ref gK, .ref gU, .ref gS, .int gbe, .int gwo, .long gta, .ref gn, .int glr, .int glc, .int gti, .int ggo, .ref gR, .int gch, .ref gD]))], [(gw, .inr (10, [.int gwr, .int gwk, .int gwc, .int gwg, .int gws, .ref gwa, .ref gwb]))], [(gwa, .inl (cy 3, gwan, .inr (.inr (.inr (.inr (yad gwad))))))], xg_rows gwad gwan (cy 1) gwak gwaG, [(gwb, .inl (cy 3, gwbn, .inr (.inr (.inr (.inr (yad gwbd))))))], xg_rows gwbd gwbn (cy 1) gwbk gwbG, [(gB, .inl (cy 4, 5, .inr (.inr (.inr (.inr (yad gBd))))))], xg_rows gBd 5 (cy 2) 5 gBG, [(gK, .inl (cy 4, 5, .inr (.inr (.inr (.inr (yad gKd))))))], xg_rows gKd 5 (cy 2) 5 gKG, [(gR, .inl (cy 3, gRn, .inr (.inr (.inr (.inr (yad gRd))))))], xg_rows gRd gRn (cy 1) gRk gRG, [(gn, .inr (10, [.int gnr, .int gnk, .int gnc, .int gng, .int gns, .ref gna, .ref gnb]))], [(gna, .inl (cy 3, gnan, .inr (.inr (.inr (.inr (yad gnad))))))], xg_rows gnad gnan (cy 1) gnak gnaG, [(gnb, .inl (cy 3, gnbn, .inr (.inr (.inr (.inr (yad gnbd))))))], xg_rows gnbd gnbn (cy 1) gnbk gnbG] rfl (by decide +kernel) rfl ?_
    refine xr_st (st' := [.int x_7.1]) rfl ?_
    refine xr_if_eq (tgt := 27) (n := 23) C dd_X9_mesh_0.2.2.2.2.2.2.2.2.2.2.2.1 rfl rfl (fun c_11 => ?_) (fun c_11 => ?_)
    · replace hR := yf_t c_11 hR
      refine xr_aload_n (n := 28) (j := 0) C dd_X9_mesh_0.2.2.2.2.2.2.2.2.2.2.2.2.2.2.1 rfl rfl ?_
      refine xr_iload_n (n := 29) (j := 1) C dd_X9_mesh_0.2.2.2.2.2.2.2.2.2.2.2.2.2.2.2.1 rfl rfl ?_
      obtain ⟨x_12, hx_12, hR⟩ := yf_b hR
      refine xr_callVp (n := 32) (As := [.int i1]) (rest := []) C (kX9_meshTold_r l D cy (g := g) (gth := x_7.2) (gw := gw) (gB := gB) (gK := gK) (gU := gU) (gS := gS) (gbe := gbe) (gwo := gwo) (gta := gta) (gn := gn) (glr := glr) (glc := glc) (gti := gti) (ggo := ggo) (gR := gR) (gch := gch) (gD := gD) (gwr := gwr) (gwk := gwk) (gwc := gwc) (gwg := gwg) (gws := gws) (gwa := gwa) (gwb := gwb) (gwad := gwad) (gwan := gwan) (gwak := gwak) (gwaG := gwaG) (gwbd := gwbd) (gwbn := gwbn) (gwbk := gwbk) (gwbG := gwbG) (gBd := gBd) (gBG := gBG) (gKd := gKd) (gKG := gKG) (gRd := gRd) (gRn := gRn) (gRk := gRk) (gRG := gRG) (gnr := gnr) (gnk := gnk) (gnc := gnc) (gng := gng) (gns := gns) (gna := gna) (gnb := gnb) (gnad := gnad) (gnan := gnan) (gnak := gnak) (gnaG := gnaG) (gnbd := gnbd) (gnbn := gnbn) (gnbk := gnbk) (gnbG := gnbG) (i1 := i1) hx_12) mX9_meshTold u_1508 u_1510 u_49 0 rfl rfl 17 [0, 1, 2, 3, 4, 5, 6, 7, 8, 9, 10, 11, 12, 13, 14, 15, 16] [] rfl (by decide +kernel) rfl rfl rfl rfl (Nat.le_of_ble_eq_true rfl) (Nat.le_of_ble_eq_true rfl) (Nat.le_of_ble_eq_true rfl) (Nat.le_of_ble_eq_true rfl) (Nat.le_of_ble_eq_true rfl) dd_X9_mesh_1.1 rfl (fun _ _ hp => hp.2) (fun v_13 hp_15 => ?_)
      obtain ⟨rfl, -⟩ := hp_15
      refine xr_st (st' := [.int x_12]) rfl ?_
      obtain rfl := Option.some.inj hR
      exact ret x_12 ⟨rfl, rfl⟩ (Nat.le_of_ble_eq_true rfl) (Nat.le_of_ble_eq_true rfl) dd_X9_mesh_1.2.1
    · replace hR := yf_f c_11 hR
      refine xr_iconst (n := 24) (v := 0) C dd_X9_mesh_0.2.2.2.2.2.2.2.2.2.2.2.2.1 rfl rfl ?_
      refine xr_goto (tgt := 32) C dd_X9_mesh_0.2.2.2.2.2.2.2.2.2.2.2.2.2.1 rfl ?_
      obtain rfl := Option.some.inj hR
      exact ret 0 ⟨rfl, rfl⟩ (Nat.le_of_ble_eq_true rfl) (Nat.le_of_ble_eq_true rfl) dd_X9_mesh_1.2.1
  refine xr_if_ne (tgt := 15) (n := 11) C dd_X9_mesh_0.2.2.2.2.2.1 rfl rfl (fun c_16 => ?_) (fun c_16 => ?_)
  · replace hE_6 := yf_f c_16 hE_6
    refine xr_iconst (n := 16) (v := 0) C dd_X9_mesh_0.2.2.2.2.2.2.2.2.1 rfl rfl ?_
    have e_17 := Option.some.inj hE_6
    subst e_17
    exact J_6
  · replace hE_6 := yf_t c_16 hE_6
    refine xr_iconst (n := 12) (v := 1) C dd_X9_mesh_0.2.2.2.2.2.2.1 rfl rfl ?_
    refine xr_goto (tgt := 16) C dd_X9_mesh_0.2.2.2.2.2.2.2.1 rfl ?_
    have e_18 := Option.some.inj hE_6
    subst e_18
    exact J_6
theorem dd_X9_placeIn_0 : dk_R cX9_placeIn [(0, .iload_n 0, 1), (1, .iload_n 1, 1), (2, .invokestatic 93, 3), (5, .ifCond .eq 16, 3), (8, .iload_n 0, 1), (9, .iconst 1, 1), (10, .iload_n 1, 1), (11, .ishl, 1), (12, .iconst 1, 1), (13, .isub, 1), (14, .iand, 1), (15, .invokestatic 103, 3), (18, .goto 4, 3), (21, .iconst (-1), 1), (22, .ireturn, 1)] := dk_use _ _ (by decide +kernel)
def fX9_placeIn (i1 : Int32) (i2 : Int32) : Option (Int32) := ((fX9_has i1 i2).bind fun x_1 => (if x_1 = 0 then some (-1) else ((fJ6_bitCount_0f7a4 (i1 &&& (((1 : Int32) <<< (i2 &&& 31)) - 1))).bind fun x_6 => some x_6)))
abbrev hX9_placeIn : Cond := .code yX9_placeIn cX9_placeIn 2 (some .int)
theorem mX9_placeIn : yM yX9_placeIn hX9_placeIn 2 := ⟨u_1526, u_64, by decide +kernel, by decide +kernel, by decide +kernel⟩
set_option maxHeartbeats 4000000 in
set_option maxRecDepth 100000 in
theorem kX9_placeIn (l : Launch) (D : va_G) (cy : Nat → ClassId) (i1 : Int32) (i2 : Int32) {res : Int32} (hR : fX9_placeIn i1 i2 = some res) : YM l D cy yX9_placeIn hX9_placeIn 2 0 0 [.int i1, .int i2] [] (fun v u => v = some (.int res) ∧ u = []) := by
  unfold fX9_placeIn at hR
  refine YM.ofI (cc := cX9_placeIn) (maxL := 2) (ret := (some .int)) (by decide +kernel) rfl (Nat.le_of_ble_eq_true rfl) [(0, .int i1), (1, .int i2)] rfl rfl (fun p e s m args below meth c A H0 Q C hnm ret => ?_)
  refine xr_iload_n (n := 1) (j := 0) C dd_X9_placeIn_0.1 rfl rfl ?_
  refine xr_iload_n (n := 2) (j := 1) C dd_X9_placeIn_0.2.1 rfl rfl ?_
  obtain ⟨x_1, hx_1, hR⟩ := yf_b hR
  refine xr_callSp (n := 5) (As := [.int i1, .int i2]) (rest := []) C (kX9_has l D cy (i1 := i1) (i2 := i2) hx_1) mX9_has u_1373 u_1374 0 [] [] rfl (by decide +kernel) rfl rfl rfl rfl (Nat.le_of_ble_eq_true rfl) (Nat.le_of_ble_eq_true rfl) (Nat.le_of_ble_eq_true rfl) (Nat.le_of_ble_eq_true rfl) (Nat.le_of_ble_eq_true rfl) dd_X9_placeIn_0.2.2.1 rfl (fun _ _ hp => hp.2) (fun v_2 hp_4 => ?_)
  obtain ⟨rfl, -⟩ := hp_4
  refine xr_st (st' := [.int x_1]) rfl ?_
  refine xr_if_eq (tgt := 21) (n := 8) C dd_X9_placeIn_0.2.2.2.1 rfl rfl (fun c_5 => ?_) (fun c_5 => ?_)
  · replace hR := yf_t c_5 hR
    refine xr_iconst (n := 22) (v := -1) C dd_X9_placeIn_0.2.2.2.2.2.2.2.2.2.2.2.2.2.1 rfl rfl ?_
    obtain rfl := Option.some.inj hR
    exact ret (-1) ⟨rfl, rfl⟩ (Nat.le_of_ble_eq_true rfl) (Nat.le_of_ble_eq_true rfl) dd_X9_placeIn_0.2.2.2.2.2.2.2.2.2.2.2.2.2.2.1
  · replace hR := yf_f c_5 hR
    refine xr_iload_n (n := 9) (j := 0) C dd_X9_placeIn_0.2.2.2.2.1 rfl rfl ?_
    refine xr_iconst (n := 10) (v := 1) C dd_X9_placeIn_0.2.2.2.2.2.1 rfl rfl ?_
    refine xr_iload_n (n := 11) (j := 1) C dd_X9_placeIn_0.2.2.2.2.2.2.1 rfl rfl ?_
    refine xr_ishl (n := 12) C dd_X9_placeIn_0.2.2.2.2.2.2.2.1 rfl ?_
    refine xr_iconst (n := 13) (v := 1) C dd_X9_placeIn_0.2.2.2.2.2.2.2.2.1 rfl rfl ?_
    refine xr_isub (n := 14) C dd_X9_placeIn_0.2.2.2.2.2.2.2.2.2.1 rfl ?_
    refine xr_iand (n := 15) C dd_X9_placeIn_0.2.2.2.2.2.2.2.2.2.2.1 rfl ?_
    obtain ⟨x_6, hx_6, hR⟩ := yf_b hR
    refine xr_callSp (n := 18) (As := [.int (i1 &&& (((1 : Int32) <<< (i2 &&& 31)) - 1))]) (rest := []) C (kJ6_bitCount_0f7a4 l D cy (i1 := i1 &&& (((1 : Int32) <<< (i2 &&& 31)) - 1)) hx_6) mJ6_bitCount_0f7a4 u_1379 u_349 0 [] [] rfl (by decide +kernel) rfl rfl rfl rfl (Nat.le_of_ble_eq_true rfl) (Nat.le_of_ble_eq_true rfl) (Nat.le_of_ble_eq_true rfl) (Nat.le_of_ble_eq_true rfl) (Nat.le_of_ble_eq_true rfl) dd_X9_placeIn_0.2.2.2.2.2.2.2.2.2.2.2.1 rfl (fun _ _ hp => hp.2) (fun v_7 hp_9 => ?_)
    obtain ⟨rfl, -⟩ := hp_9
    refine xr_st (st' := [.int x_6]) rfl ?_
    refine xr_goto (tgt := 22) C dd_X9_placeIn_0.2.2.2.2.2.2.2.2.2.2.2.2.1 rfl ?_
    obtain rfl := Option.some.inj hR
    exact ret x_6 ⟨rfl, rfl⟩ (Nat.le_of_ble_eq_true rfl) (Nat.le_of_ble_eq_true rfl) dd_X9_placeIn_0.2.2.2.2.2.2.2.2.2.2.2.2.2.2.1
theorem dd_X9_does_0 : dk_R cX9_does [(0, .aload_n 0, 1), (1, .getfield 137, 3), (4, .ifnull 59, 3), (7, .aload_n 0, 1), (8, .getfield 146, 3), (11, .iload_n 1, 1), (12, .invokestatic 93, 3), (15, .ifCond .eq 48, 3), (18, .aload_n 0, 1), (19, .getfield 149, 3), (22, .iload_n 2, 1), (23, .invokestatic 93, 3), (26, .ifCond .eq 37, 3), (29, .aload_n 0, 1), (30, .getfield 146, 3), (33, .iload_n 1, 1)] := dk_use _ _ (by decide +kernel)
theorem dd_X9_does_1 : dk_R cX9_does [(34, .invokestatic 244, 3), (37, .aload_n 0, 1), (38, .invokevirtual 161, 3), (41, .if_icmp .ge 22, 3), (44, .aload_n 0, 1), (45, .getfield 149, 3), (48, .iload_n 2, 1), (49, .invokestatic 244, 3), (52, .aload_n 0, 1), (53, .invokevirtual 164, 3), (56, .if_icmp .ge 7, 3), (59, .iconst 1, 1), (60, .goto 4, 3), (63, .iconst 0, 1), (64, .ireturn, 1)] := dk_use _ _ (by decide +kernel)
def fX9_does_i  : Option (Int32) := some 0
abbrev hX9_does : Cond := .code yX9_does cX9_does 3 (some .boolean)
theorem mX9_does : yM yX9_does hX9_does 2 := ⟨u_1523, u_64, by decide +kernel, by decide +kernel, by decide +kernel⟩
set_option maxHeartbeats 4000000 in
set_option maxRecDepth 100000 in
theorem kX9_does_i (l : Launch) (D : va_G) (cy : Nat → ClassId) (g : Nat) (gth : Int32) (gw : Nat) (gB : Nat) (gK : Nat) (gU : Nat) (gS : Nat) (gbe : Int32) (gwo : Int32) (gta : Int64) (glr : Int32) (glc : Int32) (gti : Int32) (ggo : Int32) (gR : Nat) (gch : Int32) (gD : Nat) (i1 : Int32) (i2 : Int32) {res : Int32} (hR : fX9_does_i  = some res) : YM l D cy yX9_does hX9_does 1 0 0 [.ref g, .int i1, .int i2] [[(g, .inr (11, [.int gth, .ref gw, .ref gB, .ref gK, .ref gU, .ref gS, .int gbe, .int gwo, .long gta, .null, .int glr, .int glc, .int gti, .int ggo, .ref gR, .int gch, .ref gD]))]] (fun v u => v = some (.int res) ∧ u = [[(g, .inr (11, [.int gth, .ref gw, .ref gB, .ref gK, .ref gU, .ref gS, .int gbe, .int gwo, .long gta, .null, .int glr, .int glc, .int gti, .int ggo, .ref gR, .int gch, .ref gD]))]]) := by
  unfold fX9_does_i at hR
  refine YM.ofZ (cc := cX9_does) (maxL := 3) (ret := (some .boolean)) (by decide +kernel) rfl (Nat.le_of_ble_eq_true rfl) [(0, .ref g), (1, .int i1), (2, .int i2)] rfl .boolean rfl (fun p e s m args below meth c A H0 Q C hnm ret => ?_)
  refine xr_aload_n (n := 1) (j := 0) C dd_X9_does_0.1 rfl rfl ?_
  refine xr_get (n := 4) C 0 rfl rfl 9 (by decide) in_X9 u_1246 rfl (v := .null) rfl dd_X9_does_0.2.1 rfl ?_
  refine xr_ifnullN (tgt := 63) C dd_X9_does_0.2.2.1 rfl ?_
  refine xr_iconst (n := 64) (v := 0) C dd_X9_does_1.2.2.2.2.2.2.2.2.2.2.2.2.2.1 rfl rfl ?_
  obtain rfl := Option.some.inj hR
  exact ret 0 (by decide) ⟨rfl, rfl⟩ (Nat.le_of_ble_eq_true rfl) (Nat.le_of_ble_eq_true rfl) dd_X9_does_1.2.2.2.2.2.2.2.2.2.2.2.2.2.2.1
def fX9_does_r (glr : Int32) (glc : Int32) (gti : Int32) (gnr : Int32) (gnc : Int32) (gns : Int32) (i1 : Int32) (i2 : Int32) : Option (Int32) := ((fX9_has glr i1).bind fun x_1 => (if x_1 = 0 then some 0 else ((fX9_has glc i2).bind fun x_6 => (if x_6 = 0 then some 0 else ((fX9_placeIn glr i1).bind fun x_11 => ((fX9_tileRows glr glc gti gnr gnc gns).bind fun x_15 => (if x_15 ≤ x_11 then some 0 else ((fX9_placeIn glc i2).bind fun x_20 => ((fX9_tileColumns glc gti gnc gns).bind fun x_24 => (if x_24 ≤ x_20 then some 0 else some 1))))))))))
set_option maxHeartbeats 4000000 in
set_option maxRecDepth 100000 in
theorem kX9_does_r (l : Launch) (D : va_G) (cy : Nat → ClassId) (g : Nat) (gth : Int32) (gw : Nat) (gB : Nat) (gK : Nat) (gU : Nat) (gS : Nat) (gbe : Int32) (gwo : Int32) (gta : Int64) (gn : Nat) (glr : Int32) (glc : Int32) (gti : Int32) (ggo : Int32) (gR : Nat) (gch : Int32) (gD : Nat) (gnr : Int32) (gnk : Int32) (gnc : Int32) (gng : Int32) (gns : Int32) (gna : Nat) (gnb : Nat) (i1 : Int32) (i2 : Int32) {res : Int32} (hR : fX9_does_r glr glc gti gnr gnc gns i1 i2 = some res) : YM l D cy yX9_does hX9_does 4 0 0 [.ref g, .int i1, .int i2] [[(g, .inr (11, [.int gth, .ref gw, .ref gB, .ref gK, .ref gU, .ref gS, .int gbe, .int gwo, .long gta, .ref gn, .int glr, .int glc, .int gti, .int ggo, .ref gR, .int gch, .ref gD]))], [(gn, .inr (10, [.int gnr, .int gnk, .int gnc, .int gng, .int gns, .ref gna, .ref gnb]))]] (fun v u => v = some (.int res) ∧ u = [[(g, .inr (11, [.int gth, .ref gw, .ref gB, .ref gK, .ref gU, .ref gS, .int gbe, .int gwo, .long gta, .ref gn, .int glr, .int glc, .int gti, .int ggo, .ref gR, .int gch, .ref gD]))], [(gn, .inr (10, [.int gnr, .int gnk, .int gnc, .int gng, .int gns, .ref gna, .ref gnb]))]]) := by
  unfold fX9_does_r at hR
  refine YM.ofZ (cc := cX9_does) (maxL := 3) (ret := (some .boolean)) (by decide +kernel) rfl (Nat.le_of_ble_eq_true rfl) [(0, .ref g), (1, .int i1), (2, .int i2)] rfl .boolean rfl (fun p e s m args below meth c A H0 Q C hnm ret => ?_)
  refine xr_aload_n (n := 1) (j := 0) C dd_X9_does_0.1 rfl rfl ?_
  refine xr_get (n := 4) C 0 rfl rfl 9 (by decide) in_X9 u_1246 rfl (v := .ref gn) rfl dd_X9_does_0.2.1 rfl ?_
  refine xr_ifnull (n := 7) C dd_X9_does_0.2.2.1 rfl ?_
  refine xr_aload_n (n := 8) (j := 0) C dd_X9_does_0.2.2.2.1 rfl rfl ?_
  refine xr_get (n := 11) C 0 rfl rfl 10 (by decide) in_X9 u_1247 rfl (v := .int glr) rfl dd_X9_does_0.2.2.2.2.1 rfl ?_
  refine xr_iload_n (n := 12) (j := 1) C dd_X9_does_0.2.2.2.2.2.1 rfl rfl ?_
  obtain ⟨x_1, hx_1, hR⟩ := yf_b hR
  refine xr_callSp (n := 15) (As := [.int glr, .int i1]) (rest := []) C (kX9_has l D cy (i1 := glr) (i2 := i1) hx_1) mX9_has u_1373 u_1374 2 [] [0, 1] rfl (by decide +kernel) rfl rfl rfl rfl (Nat.le_of_ble_eq_true rfl) (Nat.le_of_ble_eq_true rfl) (Nat.le_of_ble_eq_true rfl) (Nat.le_of_ble_eq_true rfl) (Nat.le_of_ble_eq_true rfl) dd_X9_does_0.2.2.2.2.2.2.1 rfl (fun _ _ hp => hp.2) (fun v_2 hp_4 => ?_)
  obtain ⟨rfl, -⟩ := hp_4
  refine xr_st (st' := [.int x_1]) rfl ?_
  refine xr_if_eq (tgt := 63) (n := 18) C dd_X9_does_0.2.2.2.2.2.2.2.1 rfl rfl (fun c_5 => ?_) (fun c_5 => ?_)
  · replace hR := yf_t c_5 hR
    refine xr_iconst (n := 64) (v := 0) C dd_X9_does_1.2.2.2.2.2.2.2.2.2.2.2.2.2.1 rfl rfl ?_
    obtain rfl := Option.some.inj hR
    exact ret 0 (by decide) ⟨rfl, rfl⟩ (Nat.le_of_ble_eq_true rfl) (Nat.le_of_ble_eq_true rfl) dd_X9_does_1.2.2.2.2.2.2.2.2.2.2.2.2.2.2.1
  · replace hR := yf_f c_5 hR
    refine xr_aload_n (n := 19) (j := 0) C dd_X9_does_0.2.2.2.2.2.2.2.2.1 rfl rfl ?_
    refine xr_get (n := 22) C 0 rfl rfl 11 (by decide) in_X9 u_1248 rfl (v := .int glc) rfl dd_X9_does_0.2.2.2.2.2.2.2.2.2.1 rfl ?_
    refine xr_iload_n (n := 23) (j := 2) C dd_X9_does_0.2.2.2.2.2.2.2.2.2.2.1 rfl rfl ?_
    obtain ⟨x_6, hx_6, hR⟩ := yf_b hR
    refine xr_callSp (n := 26) (As := [.int glc, .int i2]) (rest := []) C (kX9_has l D cy (i1 := glc) (i2 := i2) hx_6) mX9_has u_1373 u_1374 2 [] [0, 1] rfl (by decide +kernel) rfl rfl rfl rfl (Nat.le_of_ble_eq_true rfl) (Nat.le_of_ble_eq_true rfl) (Nat.le_of_ble_eq_true rfl) (Nat.le_of_ble_eq_true rfl) (Nat.le_of_ble_eq_true rfl) dd_X9_does_0.2.2.2.2.2.2.2.2.2.2.2.1 rfl (fun _ _ hp => hp.2) (fun v_7 hp_9 => ?_)
    obtain ⟨rfl, -⟩ := hp_9
    refine xr_st (st' := [.int x_6]) rfl ?_
    refine xr_if_eq (tgt := 63) (n := 29) C dd_X9_does_0.2.2.2.2.2.2.2.2.2.2.2.2.1 rfl rfl (fun c_10 => ?_) (fun c_10 => ?_)
    · replace hR := yf_t c_10 hR
      refine xr_iconst (n := 64) (v := 0) C dd_X9_does_1.2.2.2.2.2.2.2.2.2.2.2.2.2.1 rfl rfl ?_
      obtain rfl := Option.some.inj hR
      exact ret 0 (by decide) ⟨rfl, rfl⟩ (Nat.le_of_ble_eq_true rfl) (Nat.le_of_ble_eq_true rfl) dd_X9_does_1.2.2.2.2.2.2.2.2.2.2.2.2.2.2.1
    · replace hR := yf_f c_10 hR
      refine xr_aload_n (n := 30) (j := 0) C dd_X9_does_0.2.2.2.2.2.2.2.2.2.2.2.2.2.1 rfl rfl ?_
      refine xr_get (n := 33) C 0 rfl rfl 10 (by decide) in_X9 u_1247 rfl (v := .int glr) rfl dd_X9_does_0.2.2.2.2.2.2.2.2.2.2.2.2.2.2.1 rfl ?_
      refine xr_iload_n (n := 34) (j := 1) C dd_X9_does_0.2.2.2.2.2.2.2.2.2.2.2.2.2.2.2.1 rfl rfl ?_
      obtain ⟨x_11, hx_11, hR⟩ := yf_b hR
      refine xr_callSp (n := 37) (As := [.int glr, .int i1]) (rest := []) C (kX9_placeIn l D cy (i1 := glr) (i2 := i1) hx_11) mX9_placeIn u_1524 u_1525 2 [] [0, 1] rfl (by decide +kernel) rfl rfl rfl rfl (Nat.le_of_ble_eq_true rfl) (Nat.le_of_ble_eq_true rfl) (Nat.le_of_ble_eq_true rfl) (Nat.le_of_ble_eq_true rfl) (Nat.le_of_ble_eq_true rfl) dd_X9_does_1.1 rfl (fun _ _ hp => hp.2) (fun v_12 hp_14 => ?_)
      obtain ⟨rfl, -⟩ := hp_14
      refine xr_st (st' := [.int x_11]) rfl ?_
      refine xr_aload_n (n := 38) (j := 0) C dd_X9_does_1.2.1 rfl rfl ?_
      obtain ⟨x_15, hx_15, hR⟩ := yf_b hR
      refine xr_callVp (n := 41) (As := []) (rest := [.int x_11]) C (kX9_tileRows l D cy (g := g) (gth := gth) (gw := gw) (gB := gB) (gK := gK) (gU := gU) (gS := gS) (gbe := gbe) (gwo := gwo) (gta := gta) (gn := gn) (glr := glr) (glc := glc) (gti := gti) (ggo := ggo) (gR := gR) (gch := gch) (gD := gD) (gnr := gnr) (gnk := gnk) (gnc := gnc) (gng := gng) (gns := gns) (gna := gna) (gnb := gnb) hx_15) mX9_tileRows u_1439 u_1441 u_40 0 rfl rfl 2 [0, 1] [] rfl (by decide +kernel) rfl rfl rfl rfl (Nat.le_of_ble_eq_true rfl) (Nat.le_of_ble_eq_true rfl) (Nat.le_of_ble_eq_true rfl) (Nat.le_of_ble_eq_true rfl) (Nat.le_of_ble_eq_true rfl) dd_X9_does_1.2.2.1 rfl (fun _ _ hp => hp.2) (fun v_16 hp_18 => ?_)
      obtain ⟨rfl, -⟩ := hp_18
      refine xr_st (st' := [.int x_15, .int x_11]) rfl ?_
      refine xr_icmp_ge (tgt := 63) (n := 44) C dd_X9_does_1.2.2.2.1 rfl rfl (fun c_19 => ?_) (fun c_19 => ?_)
      · replace hR := yf_t c_19 hR
        refine xr_iconst (n := 64) (v := 0) C dd_X9_does_1.2.2.2.2.2.2.2.2.2.2.2.2.2.1 rfl rfl ?_
        obtain rfl := Option.some.inj hR
        exact ret 0 (by decide) ⟨rfl, rfl⟩ (Nat.le_of_ble_eq_true rfl) (Nat.le_of_ble_eq_true rfl) dd_X9_does_1.2.2.2.2.2.2.2.2.2.2.2.2.2.2.1
      · replace hR := yf_f c_19 hR
        refine xr_aload_n (n := 45) (j := 0) C dd_X9_does_1.2.2.2.2.1 rfl rfl ?_
        refine xr_get (n := 48) C 0 rfl rfl 11 (by decide) in_X9 u_1248 rfl (v := .int glc) rfl dd_X9_does_1.2.2.2.2.2.1 rfl ?_
        refine xr_iload_n (n := 49) (j := 2) C dd_X9_does_1.2.2.2.2.2.2.1 rfl rfl ?_
        obtain ⟨x_20, hx_20, hR⟩ := yf_b hR
        refine xr_callSp (n := 52) (As := [.int glc, .int i2]) (rest := []) C (kX9_placeIn l D cy (i1 := glc) (i2 := i2) hx_20) mX9_placeIn u_1524 u_1525 2 [] [0, 1] rfl (by decide +kernel) rfl rfl rfl rfl (Nat.le_of_ble_eq_true rfl) (Nat.le_of_ble_eq_true rfl) (Nat.le_of_ble_eq_true rfl) (Nat.le_of_ble_eq_true rfl) (Nat.le_of_ble_eq_true rfl) dd_X9_does_1.2.2.2.2.2.2.2.1 rfl (fun _ _ hp => hp.2) (fun v_21 hp_23 => ?_)
        obtain ⟨rfl, -⟩ := hp_23
        refine xr_st (st' := [.int x_20]) rfl ?_
        refine xr_aload_n (n := 53) (j := 0) C dd_X9_does_1.2.2.2.2.2.2.2.2.1 rfl rfl ?_
        obtain ⟨x_24, hx_24, hR⟩ := yf_b hR
        refine xr_callVp (n := 56) (As := []) (rest := [.int x_20]) C (kX9_tileColumns l D cy (g := g) (gth := gth) (gw := gw) (gB := gB) (gK := gK) (gU := gU) (gS := gS) (gbe := gbe) (gwo := gwo) (gta := gta) (gn := gn) (glr := glr) (glc := glc) (gti := gti) (ggo := ggo) (gR := gR) (gch := gch) (gD := gD) (gnr := gnr) (gnk := gnk) (gnc := gnc) (gng := gng) (gns := gns) (gna := gna) (gnb := gnb) hx_24) mX9_tileColumns u_1443 u_1445 u_41 0 rfl rfl 2 [0, 1] [] rfl (by decide +kernel) rfl rfl rfl rfl (Nat.le_of_ble_eq_true rfl) (Nat.le_of_ble_eq_true rfl) (Nat.le_of_ble_eq_true rfl) (Nat.le_of_ble_eq_true rfl) (Nat.le_of_ble_eq_true rfl) dd_X9_does_1.2.2.2.2.2.2.2.2.2.1 rfl (fun _ _ hp => hp.2) (fun v_25 hp_27 => ?_)
        obtain ⟨rfl, -⟩ := hp_27
        refine xr_st (st' := [.int x_24, .int x_20]) rfl ?_
        refine xr_icmp_ge (tgt := 63) (n := 59) C dd_X9_does_1.2.2.2.2.2.2.2.2.2.2.1 rfl rfl (fun c_28 => ?_) (fun c_28 => ?_)
        · replace hR := yf_t c_28 hR
          refine xr_iconst (n := 64) (v := 0) C dd_X9_does_1.2.2.2.2.2.2.2.2.2.2.2.2.2.1 rfl rfl ?_
          obtain rfl := Option.some.inj hR
          exact ret 0 (by decide) ⟨rfl, rfl⟩ (Nat.le_of_ble_eq_true rfl) (Nat.le_of_ble_eq_true rfl) dd_X9_does_1.2.2.2.2.2.2.2.2.2.2.2.2.2.2.1
        · replace hR := yf_f c_28 hR
          refine xr_iconst (n := 60) (v := 1) C dd_X9_does_1.2.2.2.2.2.2.2.2.2.2.2.1 rfl rfl ?_
          refine xr_goto (tgt := 64) C dd_X9_does_1.2.2.2.2.2.2.2.2.2.2.2.2.1 rfl ?_
          obtain rfl := Option.some.inj hR
          exact ret 1 (by decide) ⟨rfl, rfl⟩ (Nat.le_of_ble_eq_true rfl) (Nat.le_of_ble_eq_true rfl) dd_X9_does_1.2.2.2.2.2.2.2.2.2.2.2.2.2.2.1
theorem dX9_cellTold_1 : decode cX9_cellTold 1 = .ok (.tableswitch 85 0 2 #[27, 54, 63], 27) := by decide +kernel
theorem dd_X9_cellTold_0 : dk_R cX9_cellTold [(0, .iload_n 3, 1), (28, .aload_n 0, 1), (29, .getfield 27, 3), (32, .iload_n 1, 1), (33, .aaload, 1), (34, .iload_n 2, 1), (35, .baload, 1), (36, .ifCond .eq 7, 3), (39, .iconst 2, 1), (40, .goto 14, 3), (43, .aload_n 0, 1), (44, .getfield 24, 3), (47, .iload_n 1, 1), (48, .aaload, 1), (49, .iload_n 2, 1), (50, .baload, 1)] := dk_use _ _ (by decide +kernel)
theorem dd_X9_cellTold_1 : dk_R cX9_cellTold [(51, .invokestatic 71, 3), (54, .ireturn, 1), (55, .aload_n 0, 1), (56, .getfield 32, 3), (59, .iload_n 1, 1), (60, .aaload, 1), (61, .iload_n 2, 1), (62, .iaload, 1), (63, .ireturn, 1), (64, .aload_n 0, 1), (65, .iload_n 1, 1), (66, .iload_n 2, 1), (67, .invokevirtual 247, 3), (70, .ifCond .eq 14, 3), (73, .aload_n 0, 1), (74, .getfield 35, 3)] := dk_use _ _ (by decide +kernel)
theorem dd_X9_cellTold_2 : dk_R cX9_cellTold [(77, .iload_n 1, 1), (78, .aaload, 1), (79, .iload_n 2, 1), (80, .iaload, 1), (81, .goto 4, 3), (84, .iconst 0, 1), (85, .ireturn, 1), (86, .aload_n 0, 1), (87, .iload_n 1, 1), (88, .iload_n 2, 1), (89, .invokevirtual 247, 3), (92, .ifCond .eq 10, 3), (95, .aload_n 0, 1), (96, .getfield 167, 3), (99, .ifCond .ne 7, 3), (102, .iconst (-1), 1)] := dk_use _ _ (by decide +kernel)
theorem dd_X9_cellTold_3 : dk_R cX9_cellTold [(103, .goto 29, 3), (106, .aload_n 0, 1), (107, .aload_n 0, 1), (108, .getfield 167, 3), (111, .iconst 1, 1), (112, .isub, 1), (113, .aload_n 0, 1), (114, .getfield 146, 3), (117, .iload_n 1, 1), (118, .invokestatic 244, 3), (121, .aload_n 0, 1), (122, .getfield 149, 3), (125, .iload_n 2, 1), (126, .invokestatic 244, 3), (129, .invokevirtual 196, 3), (132, .ireturn, 1)] := dk_use _ _ (by decide +kernel)
def fX9_cellTold_i (gBG : Nat → Nat → Int32) (gKG : Nat → Nat → Int32) (gUG : Nat → Nat → Int32) (i1 : Int32) (i2 : Int32) (i3 : Int32) : Option (Int32) := (if i3 = 0 then (if ¬ (i1 < 0 ∨ 5 ≤ i1.toNatClampNeg) then (if ¬ (i2 < 0 ∨ 5 ≤ i2.toNatClampNeg) then (if (gKG i1.toNatClampNeg i2.toNatClampNeg) = 0 then (if ¬ (i1 < 0 ∨ 5 ≤ i1.toNatClampNeg) then (if ¬ (i2 < 0 ∨ 5 ≤ i2.toNatClampNeg) then ((fX9_one (gBG i1.toNatClampNeg i2.toNatClampNeg)).bind fun x_7 => some x_7) else none) else none) else some 2) else none) else none) else (if i3 = 1 then (if ¬ (i1 < 0 ∨ 5 ≤ i1.toNatClampNeg) then (if ¬ (i2 < 0 ∨ 5 ≤ i2.toNatClampNeg) then some (gUG i1.toNatClampNeg i2.toNatClampNeg) else none) else none) else (if i3 = 2 then ((fX9_does_i).bind fun x_15 => some 0) else ((fX9_does_i).bind fun x_20 => some (-1)))))
abbrev hX9_cellTold : Cond := .code yX9_cellTold cX9_cellTold 4 (some .int)
theorem mX9_cellTold : yM yX9_cellTold hX9_cellTold 3 := ⟨u_1519, u_64, by decide +kernel, by decide +kernel, by decide +kernel⟩
set_option maxHeartbeats 4000000 in
set_option maxRecDepth 100000 in
theorem kX9_cellTold_i (l : Launch) (D : va_G) (cy : Nat → ClassId) (g : Nat) (gth : Int32) (gw : Nat) (gB : Nat) (gK : Nat) (gU : Nat) (gS : Nat) (gbe : Int32) (gwo : Int32) (gta : Int64) (glr : Int32) (glc : Int32) (gti : Int32) (ggo : Int32) (gR : Nat) (gch : Int32) (gD : Nat) (gBd : Nat → Nat) (gBG : Nat → Nat → Int32) (gKd : Nat → Nat) (gKG : Nat → Nat → Int32) (gUd : Nat → Nat) (gUG : Nat → Nat → Int32) (gSd : Nat → Nat) (gSG : Nat → Nat → Int32) (i1 : Int32) (i2 : Int32) (i3 : Int32) {res : Int32} (hR : fX9_cellTold_i gBG gKG gUG i1 i2 i3 = some res) : YM l D cy yX9_cellTold hX9_cellTold 2 0 0 [.ref g, .int i1, .int i2, .int i3] [[(g, .inr (11, [.int gth, .ref gw, .ref gB, .ref gK, .ref gU, .ref gS, .int gbe, .int gwo, .long gta, .null, .int glr, .int glc, .int gti, .int ggo, .ref gR, .int gch, .ref gD]))], [(gB, .inl (cy 4, 5, .inr (.inr (.inr (.inr (yad gBd))))))], xg_rows gBd 5 (cy 2) 5 gBG, [(gK, .inl (cy 4, 5, .inr (.inr (.inr (.inr (yad gKd))))))], xg_rows gKd 5 (cy 2) 5 gKG, [(gU, .inl (cy 3, 5, .inr (.inr (.inr (.inr (yad gUd))))))], xg_rows gUd 5 (cy 1) 5 gUG, [(gS, .inl (cy 3, 5, .inr (.inr (.inr (.inr (yad gSd))))))], xg_rows gSd 5 (cy 1) 5 gSG] (fun v u => v = some (.int res) ∧ u = [[(g, .inr (11, [.int gth, .ref gw, .ref gB, .ref gK, .ref gU, .ref gS, .int gbe, .int gwo, .long gta, .null, .int glr, .int glc, .int gti, .int ggo, .ref gR, .int gch, .ref gD]))], [(gB, .inl (cy 4, 5, .inr (.inr (.inr (.inr (yad gBd))))))], xg_rows gBd 5 (cy 2) 5 gBG, [(gK, .inl (cy 4, 5, .inr (.inr (.inr (.inr (yad gKd))))))], xg_rows gKd 5 (cy 2) 5 gKG, [(gU, .inl (cy 3, 5, .inr (.inr (.inr (.inr (yad gUd))))))], xg_rows gUd 5 (cy 1) 5 gUG, [(gS, .inl (cy 3, 5, .inr (.inr (.inr (.inr (yad gSd))))))], xg_rows gSd 5 (cy 1) 5 gSG]) := by
  unfold fX9_cellTold_i at hR
  refine YM.ofI (cc := cX9_cellTold) (maxL := 4) (ret := (some .int)) (by decide +kernel) rfl (Nat.le_of_ble_eq_true rfl) [(0, .ref g), (1, .int i1), (2, .int i2), (3, .int i3)] rfl rfl (fun p e s m args below meth c A H0 Q C hnm ret => ?_)
  refine xr_iload_n (n := 1) (j := 3) C dd_X9_cellTold_0.1 rfl rfl ?_
  by_cases c_1 : i3 = 0
  · replace hR := yf_t c_1 hR
    refine xr_tableIn (off := 27) (tgt := 28) C dX9_cellTold_1 (by rw [c_1]; decide) (by rw [c_1]; decide) (by rw [c_1]; decide) rfl ?_
    refine xr_aload_n (n := 29) (j := 0) C dd_X9_cellTold_0.2.1 rfl rfl ?_
    refine xr_get (n := 32) C 0 rfl rfl 3 (by decide) in_X9 u_1240 rfl (v := .ref gK) rfl dd_X9_cellTold_0.2.2.1 rfl ?_
    refine xr_iload_n (n := 33) (j := 1) C dd_X9_cellTold_0.2.2.2.1 rfl rfl ?_
    obtain ⟨g_2, hR⟩ := yf_g hR
    refine xr_aald (n := 34) C 3 0 rfl 4 rfl rfl g_2 rfl dd_X9_cellTold_0.2.2.2.2.1 rfl ?_
    refine xr_iload_n (n := 35) (j := 2) C dd_X9_cellTold_0.2.2.2.2.2.1 rfl rfl ?_
    obtain ⟨g_3, hR⟩ := yf_g hR
    refine xr_zaldg (n := 36) C 4 rfl i1.toNatClampNeg (ylt g_2) g_3 dd_X9_cellTold_0.2.2.2.2.2.2.1 rfl ?_
    refine xr_if_eq (tgt := 43) (n := 39) C dd_X9_cellTold_0.2.2.2.2.2.2.2.1 rfl rfl (fun c_4 => ?_) (fun c_4 => ?_)
    · replace hR := yf_t c_4 hR
      refine xr_aload_n (n := 44) (j := 0) C dd_X9_cellTold_0.2.2.2.2.2.2.2.2.2.2.1 rfl rfl ?_
      refine xr_get (n := 47) C 0 rfl rfl 2 (by decide) in_X9 u_1239 rfl (v := .ref gB) rfl dd_X9_cellTold_0.2.2.2.2.2.2.2.2.2.2.2.1 rfl ?_
      refine xr_iload_n (n := 48) (j := 1) C dd_X9_cellTold_0.2.2.2.2.2.2.2.2.2.2.2.2.1 rfl rfl ?_
      obtain ⟨g_5, hR⟩ := yf_g hR
      refine xr_aald (n := 49) C 1 0 rfl 4 rfl rfl g_5 rfl dd_X9_cellTold_0.2.2.2.2.2.2.2.2.2.2.2.2.2.1 rfl ?_
      refine xr_iload_n (n := 50) (j := 2) C dd_X9_cellTold_0.2.2.2.2.2.2.2.2.2.2.2.2.2.2.1 rfl rfl ?_
      obtain ⟨g_6, hR⟩ := yf_g hR
      refine xr_zaldg (n := 51) C 2 rfl i1.toNatClampNeg (ylt g_5) g_6 dd_X9_cellTold_0.2.2.2.2.2.2.2.2.2.2.2.2.2.2.2.1 rfl ?_
      obtain ⟨x_7, hx_7, hR⟩ := yf_b hR
      refine xr_callSp (n := 54) (As := [.int (gBG i1.toNatClampNeg i2.toNatClampNeg)]) (rest := []) C (kX9_one l D cy (i1 := gBG i1.toNatClampNeg i2.toNatClampNeg) hx_7) mX9_one u_1308 u_1309 9 [] [0, 1, 2, 3, 4, 5, 6, 7, 8] rfl (by decide +kernel) rfl rfl rfl rfl (Nat.le_of_ble_eq_true rfl) (Nat.le_of_ble_eq_true rfl) (Nat.le_of_ble_eq_true rfl) (Nat.le_of_ble_eq_true rfl) (Nat.le_of_ble_eq_true rfl) dd_X9_cellTold_1.1 rfl (fun _ _ hp => hp.2) (fun v_8 hp_10 => ?_)
      obtain ⟨rfl, -⟩ := hp_10
      refine xr_st (st' := [.int x_7]) rfl ?_
      obtain rfl := Option.some.inj hR
      exact ret x_7 ⟨rfl, rfl⟩ (Nat.le_of_ble_eq_true rfl) (Nat.le_of_ble_eq_true rfl) dd_X9_cellTold_1.2.1
    · replace hR := yf_f c_4 hR
      refine xr_iconst (n := 40) (v := 2) C dd_X9_cellTold_0.2.2.2.2.2.2.2.2.1 rfl rfl ?_
      refine xr_goto (tgt := 54) C dd_X9_cellTold_0.2.2.2.2.2.2.2.2.2.1 rfl ?_
      obtain rfl := Option.some.inj hR
      exact ret 2 ⟨rfl, rfl⟩ (Nat.le_of_ble_eq_true rfl) (Nat.le_of_ble_eq_true rfl) dd_X9_cellTold_1.2.1
  replace hR := yf_f c_1 hR
  by_cases c_11 : i3 = 1
  · replace hR := yf_t c_11 hR
    refine xr_tableIn (off := 54) (tgt := 55) C dX9_cellTold_1 (by rw [c_11]; decide) (by rw [c_11]; decide) (by rw [c_11]; decide) rfl ?_
    refine xr_aload_n (n := 56) (j := 0) C dd_X9_cellTold_1.2.2.1 rfl rfl ?_
    refine xr_get (n := 59) C 0 rfl rfl 4 (by decide) in_X9 u_1241 rfl (v := .ref gU) rfl dd_X9_cellTold_1.2.2.2.1 rfl ?_
    refine xr_iload_n (n := 60) (j := 1) C dd_X9_cellTold_1.2.2.2.2.1 rfl rfl ?_
    obtain ⟨g_12, hR⟩ := yf_g hR
    refine xr_aald (n := 61) C 5 0 rfl 3 rfl rfl g_12 rfl dd_X9_cellTold_1.2.2.2.2.2.1 rfl ?_
    refine xr_iload_n (n := 62) (j := 2) C dd_X9_cellTold_1.2.2.2.2.2.2.1 rfl rfl ?_
    obtain ⟨g_13, hR⟩ := yf_g hR
    refine xr_ialdg (n := 63) C 6 rfl i1.toNatClampNeg (ylt g_12) g_13 dd_X9_cellTold_1.2.2.2.2.2.2.2.1 rfl ?_
    obtain rfl := Option.some.inj hR
    exact ret (gUG i1.toNatClampNeg i2.toNatClampNeg) ⟨rfl, rfl⟩ (Nat.le_of_ble_eq_true rfl) (Nat.le_of_ble_eq_true rfl) dd_X9_cellTold_1.2.2.2.2.2.2.2.2.1
  replace hR := yf_f c_11 hR
  by_cases c_14 : i3 = 2
  · replace hR := yf_t c_14 hR
    refine xr_tableIn (off := 63) (tgt := 64) C dX9_cellTold_1 (by rw [c_14]; decide) (by rw [c_14]; decide) (by rw [c_14]; decide) rfl ?_
    refine xr_aload_n (n := 65) (j := 0) C dd_X9_cellTold_1.2.2.2.2.2.2.2.2.2.1 rfl rfl ?_
    refine xr_iload_n (n := 66) (j := 1) C dd_X9_cellTold_1.2.2.2.2.2.2.2.2.2.2.1 rfl rfl ?_
    refine xr_iload_n (n := 67) (j := 2) C dd_X9_cellTold_1.2.2.2.2.2.2.2.2.2.2.2.1 rfl rfl ?_
    obtain ⟨x_15, hx_15, hR⟩ := yf_b hR
    obtain rfl := Option.some.inj (show some ((0) : Int32) = some x_15 from hx_15)
    refine xr_callVp (n := 70) (As := [.int i1, .int i2]) (rest := []) C (kX9_does_i l D cy (g := g) (gth := gth) (gw := gw) (gB := gB) (gK := gK) (gU := gU) (gS := gS) (gbe := gbe) (gwo := gwo) (gta := gta) (glr := glr) (glc := glc) (gti := gti) (ggo := ggo) (gR := gR) (gch := gch) (gD := gD) (i1 := i1) (i2 := i2) hx_15) mX9_does u_1520 u_1522 u_51 0 rfl rfl 9 [0] [1, 2, 3, 4, 5, 6, 7, 8] rfl (by decide +kernel) rfl rfl rfl rfl (Nat.le_of_ble_eq_true rfl) (Nat.le_of_ble_eq_true rfl) (Nat.le_of_ble_eq_true rfl) (Nat.le_of_ble_eq_true rfl) (Nat.le_of_ble_eq_true rfl) dd_X9_cellTold_1.2.2.2.2.2.2.2.2.2.2.2.2.1 rfl (fun _ _ hp => hp.2) (fun v_16 hp_18 => ?_)
    obtain ⟨rfl, -⟩ := hp_18
    refine xr_st (st' := [.int 0]) rfl ?_
    refine xr_if_eq (tgt := 84) (n := 73) C dd_X9_cellTold_1.2.2.2.2.2.2.2.2.2.2.2.2.2.1 rfl rfl (fun _ => ?_) (fun c_19 => absurd (by decide) c_19)
    refine xr_iconst (n := 85) (v := 0) C dd_X9_cellTold_2.2.2.2.2.2.1 rfl rfl ?_
    obtain rfl := Option.some.inj hR
    exact ret 0 ⟨rfl, rfl⟩ (Nat.le_of_ble_eq_true rfl) (Nat.le_of_ble_eq_true rfl) dd_X9_cellTold_2.2.2.2.2.2.2.1
  replace hR := yf_f c_14 hR
  refine xr_tableOut (tgt := 86) C dX9_cellTold_1 (ytab_out (fun k h1 h2 => by
    rcases (show k = 0 ∨ k = 1 ∨ k = 2 by omega) with rfl | rfl | rfl
    · exact c_1
    · exact c_11
    · exact c_14)) rfl ?_
  refine xr_aload_n (n := 87) (j := 0) C dd_X9_cellTold_2.2.2.2.2.2.2.2.1 rfl rfl ?_
  refine xr_iload_n (n := 88) (j := 1) C dd_X9_cellTold_2.2.2.2.2.2.2.2.2.1 rfl rfl ?_
  refine xr_iload_n (n := 89) (j := 2) C dd_X9_cellTold_2.2.2.2.2.2.2.2.2.2.1 rfl rfl ?_
  obtain ⟨x_20, hx_20, hR⟩ := yf_b hR
  obtain rfl := Option.some.inj (show some ((0) : Int32) = some x_20 from hx_20)
  refine xr_callVp (n := 92) (As := [.int i1, .int i2]) (rest := []) C (kX9_does_i l D cy (g := g) (gth := gth) (gw := gw) (gB := gB) (gK := gK) (gU := gU) (gS := gS) (gbe := gbe) (gwo := gwo) (gta := gta) (glr := glr) (glc := glc) (gti := gti) (ggo := ggo) (gR := gR) (gch := gch) (gD := gD) (i1 := i1) (i2 := i2) hx_20) mX9_does u_1520 u_1522 u_51 0 rfl rfl 9 [0] [1, 2, 3, 4, 5, 6, 7, 8] rfl (by decide +kernel) rfl rfl rfl rfl (Nat.le_of_ble_eq_true rfl) (Nat.le_of_ble_eq_true rfl) (Nat.le_of_ble_eq_true rfl) (Nat.le_of_ble_eq_true rfl) (Nat.le_of_ble_eq_true rfl) dd_X9_cellTold_2.2.2.2.2.2.2.2.2.2.2.1 rfl (fun _ _ hp => hp.2) (fun v_21 hp_23 => ?_)
  obtain ⟨rfl, -⟩ := hp_23
  refine xr_st (st' := [.int 0]) rfl ?_
  refine xr_if_eq (tgt := 102) (n := 95) C dd_X9_cellTold_2.2.2.2.2.2.2.2.2.2.2.2.1 rfl rfl (fun _ => ?_) (fun c_24 => absurd (by decide) c_24)
  refine xr_iconst (n := 103) (v := -1) C dd_X9_cellTold_2.2.2.2.2.2.2.2.2.2.2.2.2.2.2.2.1 rfl rfl ?_
  refine xr_goto (tgt := 132) C dd_X9_cellTold_3.1 rfl ?_
  obtain rfl := Option.some.inj hR
  exact ret (-1) ⟨rfl, rfl⟩ (Nat.le_of_ble_eq_true rfl) (Nat.le_of_ble_eq_true rfl) dd_X9_cellTold_3.2.2.2.2.2.2.2.2.2.2.2.2.2.2.2.1
