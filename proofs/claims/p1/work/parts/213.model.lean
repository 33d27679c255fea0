theorem u_1539 : Cond.methodLink RX9 253 yX8_plain ∈ yU := yu_tables_1_7 43 (by decide +kernel) (by decide +kernel)
theorem u_1540 : Cond.instanceMethod yX8_plain ∈ yU := yu_tables_1_7 44 (by decide +kernel) (by decide +kernel)
theorem u_1541 : Cond.selects RX8 yX8_plain yX8_plain ∈ yU := yu_tables_1_7 45 (by decide +kernel) (by decide +kernel)
theorem u_1538 : Cond.code yX9_plain cX9_plain 3 (some .int) ∈ yU := yu_tables_1_7 42 (by decide +kernel) (by decide +kernel)
theorem u_1373 : Cond.methodLink RX9 123 yX9_crosses ∈ yU := yu_tables_1_6 117 (by decide +kernel) (by decide +kernel)
theorem u_1375 : Cond.instanceMethod yX9_crosses ∈ yU := yu_tables_1_6 119 (by decide +kernel) (by decide +kernel)
theorem u_33 : Cond.selects RX9 yX9_crosses yX9_crosses ∈ yU := yu 33 (by decide +kernel) (by decide +kernel)
theorem u_1380 : Cond.methodLink RX9 126 yX9_beatsOf ∈ yU := yu_tables_1_6 124 (by decide +kernel) (by decide +kernel)
theorem u_1381 : Cond.static yX9_beatsOf ∈ yU := yu_tables_1_6 125 (by decide +kernel) (by decide +kernel)
theorem u_1559 : Cond.code yX9_beats cX9_beats 3 (some .int) ∈ yU := yu_tables_1_7 63 (by decide +kernel) (by decide +kernel)
theorem u_1231 : Cond.classLink RX9 30 "[[I" ∈ yU := yu_tables_1_5 215 (by decide +kernel) (by decide +kernel)
theorem u_1236 : Cond.code yX9_lay cX9_lay 4 none ∈ yU := yu_tables_1_5 220 (by decide +kernel) (by decide +kernel)
def fX9_result_r (gRn : Nat) (gRk : Nat) (gRG : Nat → Nat → Int32) (i1 : Int32) (i2 : Int32) : Option (Int32 × Int32) := ((fX9_isNoResult_r gRn gRk i1 i2).bind fun x_1 => ((fX9_start_r x_1 1).bind fun x_5 => (if x_5.1 = 0 then (if ¬ (i1 < 0 ∨ gRn ≤ i1.toNatClampNeg) then (if ¬ (i2 < 0 ∨ gRk ≤ i2.toNatClampNeg) then some (gRG i1.toNatClampNeg i2.toNatClampNeg, x_5.2) else none) else none) else some (0, x_5.2))))
set_option maxHeartbeats 4000000 in
set_option maxRecDepth 100000 in
theorem kX9_result_r (l : Launch) (D : va_G) (cy : Nat → ClassId) (g : Nat) (gth : Int32) (gw : Nat) (gB : Nat) (gK : Nat) (gU : Nat) (gS : Nat) (gbe : Int32) (gwo : Int32) (gta : Int64) (gn : Nat) (glr : Int32) (glc : Int32) (gti : Int32) (ggo : Int32) (gR : Nat) (gch : Int32) (gD : Nat) (gRd : Nat → Nat) (gRn : Nat) (gRk : Nat) (gRG : Nat → Nat → Int32) (i1 : Int32) (i2 : Int32) {res : Int32 × Int32} (hR : fX9_result_r gRn gRk gRG i1 i2 = some res) : YM l D cy yX9_result hX9_result 3 0 0 [.ref g, .int i1, .int i2] [[(g, .inr (11, [.int gth, .ref gw, .ref gB, .ref gK, .ref gU, .ref gS, .int gbe, .int gwo, .long gta, .ref gn, .int glr, .int glc, .int gti, .int ggo, .ref gR, .int gch, .ref gD]))], [(gR, .inl (cy 3, gRn, .inr (.inr (.inr (.inr (yad gRd))))))], xg_rows gRd gRn (cy 1) gRk gRG] (fun v u => v = some (.int res.1) ∧ u = [[(g, .inr (11, [.int res.2, .ref gw, .ref gB, .ref gK, .ref gU, .ref gS, .int gbe, .int gwo, .long gta, .ref gn, .int glr, .int glc, .int gti, .int ggo, .ref gR, .int gch, .ref gD]))], [(gR, .inl (cy 3, gRn, .inr (.inr (.inr (.inr (yad gRd))))))], xg_rows gRd gRn (cy 1) gRk gRG]) := by
  unfold fX9_result_r at hR
  refine YM.ofI (cc := cX9_result) (maxL := 3) (ret := (some .int)) (by decide +kernel) rfl (Nat.le_of_ble_eq_true rfl) [(0, .ref g), (1, .int i1), (2, .int i2)] rfl rfl (fun p e s m args below meth c A H0 Q C hnm ret => ?_)
  refine xr_aload_n (n := 1) (j := 0) C dd_X9_result_0.1 rfl rfl ?_
  refine xr_aload_n (n := 2) (j := 0) C dd_X9_result_0.2.1 rfl rfl ?_
  refine xr_iload_n (n := 3) (j := 1) C dd_X9_result_0.2.2.1 rfl rfl ?_
  refine xr_iload_n (n := 4) (j := 2) C dd_X9_result_0.2.2.2.1 rfl rfl ?_
  obtain ⟨x_1, hx_1, hR⟩ := yf_b hR
  refine xr_callVp (n := 7) (As := [.int i1, .int i2]) (rest := [.ref g]) C (kX9_isNoResult_r l D cy (g := g) (gth := gth) (gw := gw) (gB := gB) (gK := gK) (gU := gU) (gS := gS) (gbe := gbe) (gwo := gwo) (gta := gta) (gn := gn) (glr := glr) (glc := glc) (gti := gti) (ggo := ggo) (gR := gR) (gch := gch) (gD := gD) (gRd := gRd) (gRn := gRn) (gRk := gRk) (gRG := gRG) (i1 := i1) (i2 := i2) hx_1) mX9_isNoResult u_1488 u_1490 u_45 0 rfl rfl 3 [0, 1, 2] [] rfl (by decide +kernel) rfl rfl rfl rfl (Nat.le_of_ble_eq_true rfl) (Nat.le_of_ble_eq_true rfl) (Nat.le_of_ble_eq_true rfl) (Nat.le_of_ble_eq_true rfl) (Nat.le_of_ble_eq_true rfl) dd_X9_result_0.2.2.2.2.1 rfl (fun _ _ hp => hp.2) (fun v_2 hp_4 => ?_)
  obtain ⟨rfl, -⟩ := hp_4
  refine xr_st (st' := [.int x_1, .ref g]) rfl ?_
  refine xr_iconst (n := 8) (v := 1) C dd_X9_result_0.2.2.2.2.2.1 rfl rfl ?_
  obtain ⟨x_5, hx_5, hR⟩ := yf_b hR
  refine xr_callV (n := 11) (As := [.int x_1, .int 1]) (rest := []) C (kX9_start_r l D cy (g := g) (gth := gth) (gw := gw) (gB := gB) (gK := gK) (gU := gU) (gS := gS) (gbe := gbe) (gwo := gwo) (gta := gta) (gn := gn) (glr := glr) (glc := glc) (gti := gti) (ggo := ggo) (gR := gR) (gch := gch) (gD := gD) (i1 := x_1) (i2 := 1) hx_5) mX9_start u_1301 u_1303 u_29 0 rfl rfl 3 [0] [1, 2] rfl (by decide +kernel) rfl rfl rfl rfl (Nat.le_of_ble_eq_true rfl) (Nat.le_of_ble_eq_true rfl) (Nat.le_of_ble_eq_true rfl) (Nat.le_of_ble_eq_true rfl) (Nat.le_of_ble_eq_true rfl) dd_X9_result_0.2.2.2.2.2.2.1 rfl (fun v_6 u_7 hp_8 => ?_)
  obtain ⟨rfl, rfl⟩ := hp_8
  refine xr_perm C 3 [0, 1, 2] [] [[(g, .inr (11, [.int x_5.2, .ref gw, .ref gB, .ref gK, .ref gU, .ref gS, .int gbe, .int gwo, .long gta, .ref gn, .int glr, .int glc, .int gti, .int ggo, .ref gR, .int gch, .ref gD]))], [(gR, .inl (cy 3, gRn, .inr (.inr (.inr (.inr (yad gRd))))))], xg_rows gRd gRn (cy 1) gRk gRG] rfl (by decide +kernel) rfl ?_
  refine xr_st (st' := [.int x_5.1]) rfl ?_
  refine xr_if_eq (tgt := 18) (n := 14) C dd_X9_result_0.2.2.2.2.2.2.2.1 rfl rfl (fun c_9 => ?_) (fun c_9 => ?_)
  · replace hR := yf_t c_9 hR
    refine xr_aload_n (n := 19) (j := 0) C dd_X9_result_0.2.2.2.2.2.2.2.2.2.2.1 rfl rfl ?_
    refine xr_get (n := 22) C 0 rfl rfl 14 (by decide) in_X9 u_1251 rfl (v := .ref gR) rfl dd_X9_result_0.2.2.2.2.2.2.2.2.2.2.2.1 rfl ?_
    refine xr_iload_n (n := 23) (j := 1) C dd_X9_result_0.2.2.2.2.2.2.2.2.2.2.2.2.1 rfl rfl ?_
    obtain ⟨g_10, hR⟩ := yf_g hR
    refine xr_aald (n := 24) C 1 0 rfl 3 rfl rfl g_10 rfl dd_X9_result_0.2.2.2.2.2.2.2.2.2.2.2.2.2.1 rfl ?_
    refine xr_iload_n (n := 25) (j := 2) C dd_X9_result_0.2.2.2.2.2.2.2.2.2.2.2.2.2.2.1 rfl rfl ?_
    obtain ⟨g_11, hR⟩ := yf_g hR
    refine xr_ialdg (n := 26) C 2 rfl i1.toNatClampNeg (ylt g_10) g_11 dd_X9_result_0.2.2.2.2.2.2.2.2.2.2.2.2.2.2.2.1 rfl ?_
    obtain rfl := Option.some.inj hR
    exact ret (gRG i1.toNatClampNeg i2.toNatClampNeg) ⟨rfl, rfl⟩ (Nat.le_of_ble_eq_true rfl) (Nat.le_of_ble_eq_true rfl) dd_X9_result_1.1
  · replace hR := yf_f c_9 hR
    refine xr_iconst (n := 15) (v := 0) C dd_X9_result_0.2.2.2.2.2.2.2.2.1 rfl rfl ?_
    refine xr_goto (tgt := 26) C dd_X9_result_0.2.2.2.2.2.2.2.2.2.1 rfl ?_
    obtain rfl := Option.some.inj hR
    exact ret 0 ⟨rfl, rfl⟩ (Nat.le_of_ble_eq_true rfl) (Nat.le_of_ble_eq_true rfl) dd_X9_result_1.1
theorem dd_X9_plain_0 : dk_R cX9_plain [(0, .aload_n 0, 1), (1, .iload_n 1, 1), (2, .iconst 0, 1), (3, .aload_n 0, 1), (4, .getfield 16, 3), (7, .invokevirtual 106, 3), (10, .iconst 1, 1), (11, .isub, 1), (12, .invokestatic 75, 3), (15, .ifCond .eq 20, 3), (18, .iload_n 2, 1), (19, .iconst 0, 1), (20, .aload_n 0, 1), (21, .getfield 16, 3), (24, .invokevirtual 113, 3), (27, .iconst 1, 1)] := dk_use _ _ (by decide +kernel)
theorem dd_X9_plain_1 : dk_R cX9_plain [(28, .isub, 1), (29, .invokestatic 75, 3), (32, .ifCond .ne 7, 3), (35, .iconst 1, 1), (36, .goto 4, 3), (39, .iconst 0, 1), (40, .iconst 1, 1), (41, .invokevirtual 79, 3), (44, .ifCond .eq 7, 3), (47, .iconst 0, 1), (48, .goto 12, 3), (51, .aload_n 0, 1), (52, .getfield 16, 3), (55, .iload_n 1, 1), (56, .iload_n 2, 1), (57, .invokevirtual 253, 3)] := dk_use _ _ (by decide +kernel)
theorem dd_X9_plain_2 : dk_R cX9_plain [(60, .ireturn, 1)] := dk_use _ _ (by decide +kernel)
def fX9_plain_i (gwr : Int32) (gwk : Int32) (gwc : Int32) (gwg : Int32) (gws : Int32) (gwan : Nat) (gwak : Nat) (gwaG : Nat → Nat → Int32) (gwbn : Nat) (gwbk : Nat) (gwbG : Nat → Nat → Int32) (i1 : Int32) (i2 : Int32) : Option (Int32 × Int32) := ((fX8_rows gwr gws).bind fun x_1 => ((fX9_isIn i1 0 (x_1 - 1)).bind fun x_5 => ((((if x_5 = 0 then some 1 else ((fX8_columns gwc gws).bind fun x_31 => ((fX9_isIn i2 0 (x_31 - 1)).bind fun x_35 => (if x_35 = 0 then some 1 else some 0)))) : Option (Int32))).bind fun r_19 => ((fX9_start_i r_19 1).bind fun x_20 => (if x_20.1 = 0 then ((fX8_plain gwr gwk gwc gwg gwan gwak gwaG gwbn gwbk gwbG i1 i2).bind fun x_25 => some (x_25, x_20.2)) else some (0, x_20.2))))))
abbrev hX9_plain : Cond := .code yX9_plain cX9_plain 3 (some .int)
theorem mX9_plain : yM yX9_plain hX9_plain 2 := ⟨u_1538, u_64, by decide +kernel, by decide +kernel, by decide +kernel⟩
set_option maxHeartbeats 4000000 in
set_option maxRecDepth 100000 in
theorem kX9_plain_i (l : Launch) (D : va_G) (cy : Nat → ClassId) (g : Nat) (gth : Int32) (gw : Nat) (gB : Nat) (gK : Nat) (gU : Nat) (gS : Nat) (gbe : Int32) (gwo : Int32) (gta : Int64) (glr : Int32) (glc : Int32) (gti : Int32) (ggo : Int32) (gR : Nat) (gch : Int32) (gD : Nat) (gwr : Int32) (gwk : Int32) (gwc : Int32) (gwg : Int32) (gws : Int32) (gwa : Nat) (gwb : Nat) (gwad : Nat → Nat) (gwan : Nat) (gwak : Nat) (gwaG : Nat → Nat → Int32) (gwbd : Nat → Nat) (gwbn : Nat) (gwbk : Nat) (gwbG : Nat → Nat → Int32) (i1 : Int32) (i2 : Int32) {res : Int32 × Int32} (hR : fX9_plain_i gwr gwk gwc gwg gws gwan gwak gwaG gwbn gwbk gwbG i1 i2 = some res) : YM l D cy yX9_plain hX9_plain 3 0 0 [.ref g, .int i1, .int i2] [[(g, .inr (11, [.int gth, .ref gw, .ref gB, .ref gK, .ref gU, .ref gS, .int gbe, .int gwo, .long gta, .null, .int glr, .int glc, .int gti, .int ggo, .ref gR, .int gch, .ref gD]))], [(gw, .inr (10, [.int gwr, .int gwk, .int gwc, .int gwg, .int gws, .ref gwa, .ref gwb]))], [(gwa, .inl (cy 3, gwan, .inr (.inr (.inr (.inr (yad gwad))))))], xg_rows gwad gwan (cy 1) gwak gwaG, [(gwb, .inl (cy 3, gwbn, .inr (.inr (.inr (.inr (yad gwbd))))))], xg_rows gwbd gwbn (cy 1) gwbk gwbG] (fun v u => v = some (.int res.1) ∧ u = [[(g, .inr (11, [.int res.2, .ref gw, .ref gB, .ref gK, .ref gU, .ref gS, .int gbe, .int gwo, .long gta, .null, .int glr, .int glc, .int gti, .int ggo, .ref gR, .int gch, .ref gD]))], [(gw, .inr (10, [.int gwr, .int gwk, .int gwc, .int gwg, .int gws, .ref gwa, .ref gwb]))], [(gwa, .inl (cy 3, gwan, .inr (.inr (.inr (.inr (yad gwad))))))], xg_rows gwad gwan (cy 1) gwak gwaG, [(gwb, .inl (cy 3, gwbn, .inr (.inr (.inr (.inr (yad gwbd))))))], xg_rows gwbd gwbn (cy 1) gwbk gwbG]) := by
  unfold fX9_plain_i at hR
  refine YM.ofI (cc := cX9_plain) (maxL := 3) (ret := (some .int)) (by decide +kernel) rfl (Nat.le_of_ble_eq_true rfl) [(0, .ref g), (1, .int i1), (2, .int i2)] rfl rfl (fun p e s m args below meth c A H0 Q C hnm ret => ?_)
  refine xr_aload_n (n := 1) (j := 0) C dd_X9_plain_0.1 rfl rfl ?_
  refine xr_iload_n (n := 2) (j := 1) C dd_X9_plain_0.2.1 rfl rfl ?_
  refine xr_iconst (n := 3) (v := 0) C dd_X9_plain_0.2.2.1 rfl rfl ?_
  refine xr_aload_n (n := 4) (j := 0) C dd_X9_plain_0.2.2.2.1 rfl rfl ?_
  refine xr_get (n := 7) C 0 rfl rfl 1 (by decide) in_X9 u_1238 rfl (v := .ref gw) rfl dd_X9_plain_0.2.2.2.2.1 rfl ?_
  obtain ⟨x_1, hx_1, hR⟩ := yf_b hR
  refine xr_callVp (n := 10) (As := []) (rest := [.int 0, .int i1, .ref g]) C (kX8_rows l D cy (w := gw) (wr := gwr) (wk := gwk) (wc := gwc) (wg := gwg) (ws := gws) (wa := gwa) (wb := gwb) hx_1) mX8_rows u_1384 u_1385 u_1386 1 rfl rfl 6 [1] [0, 2, 3, 4, 5] rfl (by decide +kernel) rfl rfl rfl rfl (Nat.le_of_ble_eq_true rfl) (Nat.le_of_ble_eq_true rfl) (Nat.le_of_ble_eq_true rfl) (Nat.le_of_ble_eq_true rfl) (Nat.le_of_ble_eq_true rfl) dd_X9_plain_0.2.2.2.2.2.1 rfl (fun _ _ hp => hp.2) (fun v_2 hp_4 => ?_)
  obtain ⟨rfl, -⟩ := hp_4
  refine xr_st (st' := [.int x_1, .int 0, .int i1, .ref g]) rfl ?_
  refine xr_iconst (n := 11) (v := 1) C dd_X9_plain_0.2.2.2.2.2.2.1 rfl rfl ?_
  refine xr_isub (n := 12) C dd_X9_plain_0.2.2.2.2.2.2.2.1 rfl ?_
  obtain ⟨x_5, hx_5, hR⟩ := yf_b hR
  refine xr_callSp (n := 15) (As := [.int i1, .int 0, .int (x_1 - 1)]) (rest := [.ref g]) C (kX9_isIn l D cy (i1 := i1) (i2 := 0) (i3 := x_1 - 1) hx_5) mX9_isIn u_1298 u_1299 6 [] [0, 1, 2, 3, 4, 5] rfl (by decide +kernel) rfl rfl rfl rfl (Nat.le_of_ble_eq_true rfl) (Nat.le_of_ble_eq_true rfl) (Nat.le_of_ble_eq_true rfl) (Nat.le_of_ble_eq_true rfl) (Nat.le_of_ble_eq_true rfl) dd_X9_plain_0.2.2.2.2.2.2.2.2.1 rfl (fun _ _ hp => hp.2) (fun v_6 hp_8 => ?_)
  obtain ⟨rfl, -⟩ := hp_8
  refine xr_st (st' := [.int x_5, .ref g]) rfl ?_
  obtain ⟨r_19, hE_19, hR⟩ := yf_b hR
  have J_19 : X p l e (yR 3 0 0) s m args below meth c D A H0 3 Q [[(g, .inr (11, [.int gth, .ref gw, .ref gB, .ref gK, .ref gU, .ref gS, .int gbe, .int gwo, .long gta, .null, .int glr, .int glc, .int gti, .int ggo, .ref gR, .int gch, .ref gD]))], [(gw, .inr (10, [.int gwr, .int gwk, .int gwc, .int gwg, .int gws, .ref gwa, .ref gwb]))], [(gwa, .inl (cy 3, gwan, .inr (.inr (.inr (.inr (yad gwad))))))], xg_rows gwad gwan (cy 1) gwak gwaG, [(gwb, .inl (cy 3, gwbn, .inr (.inr (.inr (.inr (yad gwbd))))))], xg_rows gwbd gwbn (cy 1) gwbk gwbG] 0 0 [(0, .ref g), (1, .int i1), (2, .int i2)] 40 [.int r_19, .ref g] := by
    refine xr_iconst (n := 41) (v := 1) C dd_X9_plain_1.2.2.2.2.2.2.1 rfl rfl ?_
    obtain ⟨x_20, hx_20, hR⟩ := yf_b hR
    refine xr_callV (n := 44) (As := [.int r_19, .int 1]) (rest := []) C (kX9_start_i l D cy (g := g) (gth := gth) (gw := gw) (gB := gB) (gK := gK) (gU := gU) (gS := gS) (gbe := gbe) (gwo := gwo) (gta := gta) (glr := glr) (glc := glc) (gti := gti) (ggo := ggo) (gR := gR) (gch := gch) (gD := gD) (i1 := r_19) (i2 := 1) hx_20) mX9_start u_1301 u_1303 u_29 0 rfl rfl 6 [0] [1, 2, 3, 4, 5] rfl (by decide +kernel) rfl rfl rfl rfl (Nat.le_of_ble_eq_true rfl) (Nat.le_of_ble_eq_true rfl) (Nat.le_of_ble_eq_true rfl) (Nat.le_of_ble_eq_true rfl) (Nat.le_of_ble_eq_true rfl) dd_X9_plain_1.2.2.2.2.2.2.2.1 rfl (fun v_21 u_22 hp_23 => ?_)
    obtain ⟨rfl, rfl⟩ := hp_23
    refine xr_perm C 6 [0, 1, 2, 3, 4, 5] [] [[(g, .inr (11, [.int x_20.2, .ref gw, .ref gB, .ref gK, .ref gU, .ref gS, .int gbe, .int gwo, .long gta, .null, .int glr, .int glc, .int gti, .int ggo, .ref gR, .int gch, .ref gD]))], [(gw, .inr (10, [.int gwr, .int gwk, .int gwc, .int gwg, .int gws, .ref gwa, .ref gwb]))], [(gwa, .inl (cy 3, gwan, .inr (.inr (.inr (.inr (yad gwad))))))], xg_rows gwad gwan (cy 1) gwak gwaG, [(gwb, .inl (cy 3, gwbn, .inr (.inr (.inr (.inr (yad gwbd))))))], xg_rows gwbd gwbn (cy 1) gwbk gwbG] rfl (by decide +kernel) rfl ?_
    refine xr_st (st' := [.int x_20.1]) rfl ?_
    refine xr_if_eq (tgt := 51) (n := 47) C dd_X9_plain_1.2.2.2.2.2.2.2.2.1 rfl rfl (fun c_24 => ?_) (fun c_24 => ?_)
    · replace hR := yf_t c_24 hR
      refine xr_aload_n (n := 52) (j := 0) C dd_X9_plain_1.2.2.2.2.2.2.2.2.2.2.2.1 rfl rfl ?_
      refine xr_get (n := 55) C 0 rfl rfl 1 (by decide) in_X9 u_1238 rfl (v := .ref gw) rfl dd_X9_plain_1.2.2.2.2.2.2.2.2.2.2.2.2.1 rfl ?_
      refine xr_iload_n (n := 56) (j := 1) C dd_X9_plain_1.2.2.2.2.2.2.2.2.2.2.2.2.2.1 rfl rfl ?_
      refine xr_iload_n (n := 57) (j := 2) C dd_X9_plain_1.2.2.2.2.2.2.2.2.2.2.2.2.2.2.1 rfl rfl ?_
      obtain ⟨x_25, hx_25, hR⟩ := yf_b hR
      refine xr_callVp (n := 60) (As := [.int i1, .int i2]) (rest := []) C (kX8_plain l D cy (w := gw) (wr := gwr) (wk := gwk) (wc := gwc) (wg := gwg) (ws := gws) (wa := gwa) (wb := gwb) (wad := gwad) (wan := gwan) (wak := gwak) (waG := gwaG) (wbd := gwbd) (wbn := gwbn) (wbk := gwbk) (wbG := gwbG) (i1 := i1) (i2 := i2) hx_25) mX8_plain u_1539 u_1540 u_1541 1 rfl rfl 6 [1, 2, 3, 4, 5] [0] rfl (by decide +kernel) rfl rfl rfl rfl (Nat.le_of_ble_eq_true rfl) (Nat.le_of_ble_eq_true rfl) (Nat.le_of_ble_eq_true rfl) (Nat.le_of_ble_eq_true rfl) (Nat.le_of_ble_eq_true rfl) dd_X9_plain_1.2.2.2.2.2.2.2.2.2.2.2.2.2.2.2.1 rfl (fun _ _ hp => hp.2) (fun v_26 hp_28 => ?_)
      obtain ⟨rfl, -⟩ := hp_28
      refine xr_st (st' := [.int x_25]) rfl ?_
      obtain rfl := Option.some.inj hR
      exact ret x_25 ⟨rfl, rfl⟩ (Nat.le_of_ble_eq_true rfl) (Nat.le_of_ble_eq_true rfl) dd_X9_plain_2.1
    · replace hR := yf_f c_24 hR
      refine xr_iconst (n := 48) (v := 0) C dd_X9_plain_1.2.2.2.2.2.2.2.2.2.1 rfl rfl ?_
      refine xr_goto (tgt := 60) C dd_X9_plain_1.2.2.2.2.2.2.2.2.2.2.1 rfl ?_
      obtain rfl := Option.some.inj hR
      exact ret 0 ⟨rfl, rfl⟩ (Nat.le_of_ble_eq_true rfl) (Nat.le_of_ble_eq_true rfl) dd_X9_plain_2.1
  refine xr_if_eq (tgt := 35) (n := 18) C dd_X9_plain_0.2.2.2.2.2.2.2.2.2.1 rfl rfl (fun c_29 => ?_) (fun c_29 => ?_)
  · replace hE_19 := yf_t c_29 hE_19
    refine xr_iconst (n := 36) (v := 1) C dd_X9_plain_1.2.2.2.1 rfl rfl ?_
    refine xr_goto (tgt := 40) C dd_X9_plain_1.2.2.2.2.1 rfl ?_
    have e_30 := Option.some.inj hE_19
    subst e_30
    exact J_19
  · replace hE_19 := yf_f c_29 hE_19
    refine xr_iload_n (n := 19) (j := 2) C dd_X9_plain_0.2.2.2.2.2.2.2.2.2.2.1 rfl rfl ?_
    refine xr_iconst (n := 20) (v := 0) C dd_X9_plain_0.2.2.2.2.2.2.2.2.2.2.2.1 rfl rfl ?_
    refine xr_aload_n (n := 21) (j := 0) C dd_X9_plain_0.2.2.2.2.2.2.2.2.2.2.2.2.1 rfl rfl ?_
    refine xr_get (n := 24) C 0 rfl rfl 1 (by decide) in_X9 u_1238 rfl (v := .ref gw) rfl dd_X9_plain_0.2.2.2.2.2.2.2.2.2.2.2.2.2.1 rfl ?_
    obtain ⟨x_31, hx_31, hE_19⟩ := yf_b hE_19
    refine xr_callVp (n := 27) (As := []) (rest := [.int 0, .int i2, .ref g]) C (kX8_columns l D cy (w := gw) (wr := gwr) (wk := gwk) (wc := gwc) (wg := gwg) (ws := gws) (wa := gwa) (wb := gwb) hx_31) mX8_columns u_1391 u_1392 u_1393 1 rfl rfl 6 [1] [0, 2, 3, 4, 5] rfl (by decide +kernel) rfl rfl rfl rfl (Nat.le_of_ble_eq_true rfl) (Nat.le_of_ble_eq_true rfl) (Nat.le_of_ble_eq_true rfl) (Nat.le_of_ble_eq_true rfl) (Nat.le_of_ble_eq_true rfl) dd_X9_plain_0.2.2.2.2.2.2.2.2.2.2.2.2.2.2.1 rfl (fun _ _ hp => hp.2) (fun v_32 hp_34 => ?_)
    obtain ⟨rfl, -⟩ := hp_34
    refine xr_st (st' := [.int x_31, .int 0, .int i2, .ref g]) rfl ?_
    refine xr_iconst (n := 28) (v := 1) C dd_X9_plain_0.2.2.2.2.2.2.2.2.2.2.2.2.2.2.2.1 rfl rfl ?_
    refine xr_isub (n := 29) C dd_X9_plain_1.1 rfl ?_
    obtain ⟨x_35, hx_35, hE_19⟩ := yf_b hE_19
    refine xr_callSp (n := 32) (As := [.int i2, .int 0, .int (x_31 - 1)]) (rest := [.ref g]) C (kX9_isIn l D cy (i1 := i2) (i2 := 0) (i3 := x_31 - 1) hx_35) mX9_isIn u_1298 u_1299 6 [] [0, 1, 2, 3, 4, 5] rfl (by decide +kernel) rfl rfl rfl rfl (Nat.le_of_ble_eq_true rfl) (Nat.le_of_ble_eq_true rfl) (Nat.le_of_ble_eq_true rfl) (Nat.le_of_ble_eq_true rfl) (Nat.le_of_ble_eq_true rfl) dd_X9_plain_1.2.1 rfl (fun _ _ hp => hp.2) (fun v_36 hp_38 => ?_)
    obtain ⟨rfl, -⟩ := hp_38
    refine xr_st (st' := [.int x_35, .ref g]) rfl ?_
    refine xr_if_ne (tgt := 39) (n := 35) C dd_X9_plain_1.2.2.1 rfl rfl (fun c_39 => ?_) (fun c_39 => ?_)
    · replace hE_19 := yf_f c_39 hE_19
      refine xr_iconst (n := 40) (v := 0) C dd_X9_plain_1.2.2.2.2.2.1 rfl rfl ?_
      have e_40 := Option.some.inj hE_19
      subst e_40
      exact J_19
    · replace hE_19 := yf_t c_39 hE_19
      refine xr_iconst (n := 36) (v := 1) C dd_X9_plain_1.2.2.2.1 rfl rfl ?_
      refine xr_goto (tgt := 40) C dd_X9_plain_1.2.2.2.2.1 rfl ?_
      have e_41 := Option.some.inj hE_19
      subst e_41
      exact J_19
def fX9_plain_r (gwr : Int32) (gwk : Int32) (gwc : Int32) (gwg : Int32) (gws : Int32) (gwan : Nat) (gwak : Nat) (gwaG : Nat → Nat → Int32) (gwbn : Nat) (gwbk : Nat) (gwbG : Nat → Nat → Int32) (i1 : Int32) (i2 : Int32) : Option (Int32 × Int32) := ((fX8_rows gwr gws).bind fun x_1 => ((fX9_isIn i1 0 (x_1 - 1)).bind fun x_5 => ((((if x_5 = 0 then some 1 else ((fX8_columns gwc gws).bind fun x_31 => ((fX9_isIn i2 0 (x_31 - 1)).bind fun x_35 => (if x_35 = 0 then some 1 else some 0)))) : Option (Int32))).bind fun r_19 => ((fX9_start_r r_19 1).bind fun x_20 => (if x_20.1 = 0 then ((fX8_plain gwr gwk gwc gwg gwan gwak gwaG gwbn gwbk gwbG i1 i2).bind fun x_25 => some (x_25, x_20.2)) else some (0, x_20.2))))))
set_option maxHeartbeats 4000000 in
set_option maxRecDepth 100000 in
theorem kX9_plain_r (l : Launch) (D : va_G) (cy : Nat → ClassId) (g : Nat) (gth : Int32) (gw : Nat) (gB : Nat) (gK : Nat) (gU : Nat) (gS : Nat) (gbe : Int32) (gwo : Int32) (gta : Int64) (gn : Nat) (glr : Int32) (glc : Int32) (gti : Int32) (ggo : Int32) (gR : Nat) (gch : Int32) (gD : Nat) (gwr : Int32) (gwk : Int32) (gwc : Int32) (gwg : Int32) (gws : Int32) (gwa : Nat) (gwb : Nat) (gwad : Nat → Nat) (gwan : Nat) (gwak : Nat) (gwaG : Nat → Nat → Int32) (gwbd : Nat → Nat) (gwbn : Nat) (gwbk : Nat) (gwbG : Nat → Nat → Int32) (i1 : Int32) (i2 : Int32) {res : Int32 × Int32} (hR : fX9_plain_r gwr gwk gwc gwg gws gwan gwak gwaG gwbn gwbk gwbG i1 i2 = some res) : YM l D cy yX9_plain hX9_plain 3 0 0 [.ref g, .int i1, .int i2] [[(g, .inr (11, [.int gth, .ref gw, .ref gB, .ref gK, .ref gU, .ref gS, .int gbe, .int gwo, .long gta, .ref gn, .int glr, .int glc, .int gti, .int ggo, .ref gR, .int gch, .ref gD]))], [(gw, .inr (10, [.int gwr, .int gwk, .int gwc, .int gwg, .int gws, .ref gwa, .ref gwb]))], [(gwa, .inl (cy 3, gwan, .inr (.inr (.inr (.inr (yad gwad))))))], xg_rows gwad gwan (cy 1) gwak gwaG, [(gwb, .inl (cy 3, gwbn, .inr (.inr (.inr (.inr (yad gwbd))))))], xg_rows gwbd gwbn (cy 1) gwbk gwbG] (fun v u => v = some (.int res.1) ∧ u = [[(g, .inr (11, [.int res.2, .ref gw, .ref gB, .ref gK, .ref gU, .ref gS, .int gbe, .int gwo, .long gta, .ref gn, .int glr, .int glc, .int gti, .int ggo, .ref gR, .int gch, .ref gD]))], [(gw, .inr (10, [.int gwr, .int gwk, .int gwc, .int gwg, .int gws, .ref gwa, .ref gwb]))], [(gwa, .inl (cy 3, gwan, .inr (.inr (.inr (.inr (yad gwad))))))], xg_rows gwad gwan (cy 1) gwak gwaG, [(gwb, .inl (cy 3, gwbn, .inr (.inr (.inr (.inr (yad gwbd))))))], xg_rows gwbd gwbn (cy 1) gwbk gwbG]) := by
  unfold fX9_plain_r at hR
  refine YM.ofI (cc := cX9_plain) (maxL := 3) (ret := (some .int)) (by decide +kernel) rfl (Nat.le_of_ble_eq_true rfl) [(0, .ref g), (1, .int i1), (2, .int i2)] rfl rfl (fun p e s m args below meth c A H0 Q C hnm ret => ?_)
  refine xr_aload_n (n := 1) (j := 0) C dd_X9_plain_0.1 rfl rfl ?_
  refine xr_iload_n (n := 2) (j := 1) C dd_X9_plain_0.2.1 rfl rfl ?_
  refine xr_iconst (n := 3) (v := 0) C dd_X9_plain_0.2.2.1 rfl rfl ?_
  refine xr_aload_n (n := 4) (j := 0) C dd_X9_plain_0.2.2.2.1 rfl rfl ?_
  refine xr_get (n := 7) C 0 rfl rfl 1 (by decide) in_X9 u_1238 rfl (v := .ref gw) rfl dd_X9_plain_0.2.2.2.2.1 rfl ?_
  obtain ⟨x_1, hx_1, hR⟩ := yf_b hR
  refine xr_callVp (n := 10) (As := []) (rest := [.int 0, .int i1, .ref g]) C (kX8_rows l D cy (w := gw) (wr := gwr) (wk := gwk) (wc := gwc) (wg := gwg) (ws := gws) (wa := gwa) (wb := gwb) hx_1) mX8_rows u_1384 u_1385 u_1386 1 rfl rfl 6 [1] [0, 2, 3, 4, 5] rfl (by decide +kernel) rfl rfl rfl rfl (Nat.le_of_ble_eq_true rfl) (Nat.le_of_ble_eq_true rfl) (Nat.le_of_ble_eq_true rfl) (Nat.le_of_ble_eq_true rfl) (Nat.le_of_ble_eq_true rfl) dd_X9_plain_0.2.2.2.2.2.1 rfl (fun _ _ hp => hp.2) (fun v_2 hp_4 => ?_)
  obtain ⟨rfl, -⟩ := hp_4
  refine xr_st (st' := [.int x_1, .int 0, .int i1, .ref g]) rfl ?_
  refine xr_iconst (n := 11) (v := 1) C dd_X9_plain_0.2.2.2.2.2.2.1 rfl rfl ?_
  refine xr_isub (n := 12) C dd_X9_plain_0.2.2.2.2.2.2.2.1 rfl ?_
  obtain ⟨x_5, hx_5, hR⟩ := yf_b hR
  refine xr_callSp (n := 15) (As := [.int i1, .int 0, .int (x_1 - 1)]) (rest := [.ref g]) C (kX9_isIn l D cy (i1 := i1) (i2 := 0) (i3 := x_1 - 1) hx_5) mX9_isIn u_1298 u_1299 6 [] [0, 1, 2, 3, 4, 5] rfl (by decide +kernel) rfl rfl rfl rfl (Nat.le_of_ble_eq_true rfl) (Nat.le_of_ble_eq_true rfl) (Nat.le_of_ble_eq_true rfl) (Nat.le_of_ble_eq_true rfl) (Nat.le_of_ble_eq_true rfl) dd_X9_plain_0.2.2.2.2.2.2.2.2.1 rfl (fun _ _ hp => hp.2) (fun v_6 hp_8 => ?_)
  obtain ⟨rfl, -⟩ := hp_8
  refine xr_st (st' := [.int x_5, .ref g]) rfl ?_
  obtain ⟨r_19, hE_19, hR⟩ := yf_b hR
  have J_19 : X p l e (yR 3 0 0) s m args below meth c D A H0 3 Q [[(g, .inr (11, [.int gth, .ref gw, .ref gB, .ref gK, .ref gU, .ref gS, .int gbe, .int gwo, .long gta, .ref gn, .int glr, .int glc, .int gti, .int ggo, .ref gR, .int gch, .ref gD]))], [(gw, .inr (10, [.int gwr, .int gwk, .int gwc, .int gwg, .int gws, .ref gwa, .ref gwb]))], [(gwa, .inl (cy 3, gwan, .inr (.inr (.inr (.inr (yad gwad))))))], xg_rows gwad gwan (cy 1) gwak gwaG, [(gwb, .inl (cy 3, gwbn, .inr (.inr (.inr (.inr (yad gwbd))))))], xg_rows gwbd gwbn (cy 1) gwbk gwbG] 0 0 [(0, .ref g), (1, .int i1), (2, .int i2)] 40 [.int r_19, .ref g] := by
    refine xr_iconst (n := 41) (v := 1) C dd_X9_plain_1.2.2.2.2.2.2.1 rfl rfl ?_
    obtain ⟨x_20, hx_20, hR⟩ := yf_b hR
    refine xr_callV (n := 44) (As := [.int r_19, .int 1]) (rest := []) C (kX9_start_r l D cy (g := g) (gth := gth) (gw := gw) (gB := gB) (gK := gK) (gU := gU) (gS := gS) (gbe := gbe) (gwo := gwo) (gta := gta) (gn := gn) (glr := glr) (glc := glc) (gti := gti) (ggo := ggo) (gR := gR) (gch := gch) (gD := gD) (i1 := r_19) (i2 := 1) hx_20) mX9_start u_1301 u_1303 u_29 0 rfl rfl 6 [0] [1, 2, 3, 4, 5] rfl (by decide +kernel) rfl rfl rfl rfl (Nat.le_of_ble_eq_true rfl) (Nat.le_of_ble_eq_true rfl) (Nat.le_of_ble_eq_true rfl) (Nat.le_of_ble_eq_true rfl) (Nat.le_of_ble_eq_true rfl) dd_X9_plain_1.2.2.2.2.2.2.2.1 rfl (fun v_21 u_22 hp_23 => ?_)
    obtain ⟨rfl, rfl⟩ := hp_23
    refine xr_perm C 6 [0, 1, 2, 3, 4, 5] [] [[(g, .inr (11, [.int x_20.2, .ref gw, .ref gB, .ref gK, .ref gU, .ref gS, .int gbe, .int gwo, .long gta, .ref gn, .int glr, .int glc, .int gti, .int ggo, .ref gR, .int gch, .ref gD]))], [(gw, .inr (10, [.int gwr, .int gwk, .int gwc, .int gwg, .int gws, .ref gwa, .ref gwb]))], [(gwa, .inl (cy 3, gwan, .inr (.inr (.inr (.inr (yad gwad))))))], xg_rows gwad gwan (cy 1) gwak gwaG, [(gwb, .inl (cy 3, gwbn, .inr (.inr (.inr (.inr (yad gwbd))))))], xg_rows gwbd gwbn (cy 1) gwbk gwbG] rfl (by decide +kernel) rfl ?_
    refine xr_st (st' := [.int x_20.1]) rfl ?_
    refine xr_if_eq (tgt := 51) (n := 47) C dd_X9_plain_1.2.2.2.2.2.2.2.2.1 rfl rfl (fun c_24 => ?_) (fun c_24 => ?_)
    · replace hR := yf_t c_24 hR
      refine xr_aload_n (n := 52) (j := 0) C dd_X9_plain_1.2.2.2.2.2.2.2.2.2.2.2.1 rfl rfl ?_
      refine xr_get (n := 55) C 0 rfl rfl 1 (by decide) in_X9 u_1238 rfl (v := .ref gw) rfl dd_X9_plain_1.2.2.2.2.2.2.2.2.2.2.2.2.1 rfl ?_
      refine xr_iload_n (n := 56) (j := 1) C dd_X9_plain_1.2.2.2.2.2.2.2.2.2.2.2.2.2.1 rfl rfl ?_
      refine xr_iload_n (n := 57) (j := 2) C dd_X9_plain_1.2.2.2.2.2.2.2.2.2.2.2.2.2.2.1 rfl rfl ?_
      obtain ⟨x_25, hx_25, hR⟩ := yf_b hR
      refine xr_callVp (n := 60) (As := [.int i1, .int i2]) (rest := []) C (kX8_plain l D cy (w := gw) (wr := gwr) (wk := gwk) (wc := gwc) (wg := gwg) (ws := gws) (wa := gwa) (wb := gwb) (wad := gwad) (wan := gwan) (wak := gwak) (waG := gwaG) (wbd := gwbd) (wbn := gwbn) (wbk := gwbk) (wbG := gwbG) (i1 := i1) (i2 := i2) hx_25) mX8_plain u_1539 u_1540 u_1541 1 rfl rfl 6 [1, 2, 3, 4, 5] [0] rfl (by decide +kernel) rfl rfl rfl rfl (Nat.le_of_ble_eq_true rfl) (Nat.le_of_ble_eq_true rfl) (Nat.le_of_ble_eq_true rfl) (Nat.le_of_ble_eq_true rfl) (Nat.le_of_ble_eq_true rfl) dd_X9_plain_1.2.2.2.2.2.2.2.2.2.2.2.2.2.2.2.1 rfl (fun _ _ hp => hp.2) (fun v_26 hp_28 => ?_)
      obtain ⟨rfl, -⟩ := hp_28
      refine xr_st (st' := [.int x_25]) rfl ?_
      obtain rfl := Option.some.inj hR
      exact ret x_25 ⟨rfl, rfl⟩ (Nat.le_of_ble_eq_true rfl) (Nat.le_of_ble_eq_true rfl) dd_X9_plain_2.1
    · replace hR := yf_f c_24 hR
      refine xr_iconst (n := 48) (v := 0) C dd_X9_plain_1.2.2.2.2.2.2.2.2.2.1 rfl rfl ?_
      refine xr_goto (tgt := 60) C dd_X9_plain_1.2.2.2.2.2.2.2.2.2.2.1 rfl ?_
      obtain rfl := Option.some.inj hR
      exact ret 0 ⟨rfl, rfl⟩ (Nat.le_of_ble_eq_true rfl) (Nat.le_of_ble_eq_true rfl) dd_X9_plain_2.1
  refine xr_if_eq (tgt := 35) (n := 18) C dd_X9_plain_0.2.2.2.2.2.2.2.2.2.1 rfl rfl (fun c_29 => ?_) (fun c_29 => ?_)
  · replace hE_19 := yf_t c_29 hE_19
    refine xr_iconst (n := 36) (v := 1) C dd_X9_plain_1.2.2.2.1 rfl rfl ?_
    refine xr_goto (tgt := 40) C dd_X9_plain_1.2.2.2.2.1 rfl ?_
    have e_30 := Option.some.inj hE_19
    subst e_30
    exact J_19
  · replace hE_19 := yf_f c_29 hE_19
    refine xr_iload_n (n := 19) (j := 2) C dd_X9_plain_0.2.2.2.2.2.2.2.2.2.2.1 rfl rfl ?_
    refine xr_iconst (n := 20) (v := 0) C dd_X9_plain_0.2.2.2.2.2.2.2.2.2.2.2.1 rfl rfl ?_
    refine xr_aload_n (n := 21) (j := 0) C dd_X9_plain_0.2.2.2.2.2.2.2.2.2.2.2.2.1 rfl rfl ?_
    refine xr_get (n := 24) C 0 rfl rfl 1 (by decide) in_X9 u_1238 rfl (v := .ref gw) rfl dd_X9_plain_0.2.2.2.2.2.2.2.2.2.2.2.2.2.1 rfl ?_
    obtain ⟨x_31, hx_31, hE_19⟩ := yf_b hE_19
    refine xr_callVp (n := 27) (As := []) (rest := [.int 0, .int i2, .ref g]) C (kX8_columns l D cy (w := gw) (wr := gwr) (wk := gwk) (wc := gwc) (wg := gwg) (ws := gws) (wa := gwa) (wb := gwb) hx_31) mX8_columns u_1391 u_1392 u_1393 1 rfl rfl 6 [1] [0, 2, 3, 4, 5] rfl (by decide +kernel) rfl rfl rfl rfl (Nat.le_of_ble_eq_true rfl) (Nat.le_of_ble_eq_true rfl) (Nat.le_of_ble_eq_true rfl) (Nat.le_of_ble_eq_true rfl) (Nat.le_of_ble_eq_true rfl) dd_X9_plain_0.2.2.2.2.2.2.2.2.2.2.2.2.2.2.1 rfl (fun _ _ hp => hp.2) (fun v_32 hp_34 => ?_)
    obtain ⟨rfl, -⟩ := hp_34
    refine xr_st (st' := [.int x_31, .int 0, .int i2, .ref g]) rfl ?_
    refine xr_iconst (n := 28) (v := 1) C dd_X9_plain_0.2.2.2.2.2.2.2.2.2.2.2.2.2.2.2.1 rfl rfl ?_
    refine xr_isub (n := 29) C dd_X9_plain_1.1 rfl ?_
    obtain ⟨x_35, hx_35, hE_19⟩ := yf_b hE_19
    refine xr_callSp (n := 32) (As := [.int i2, .int 0, .int (x_31 - 1)]) (rest := [.ref g]) C (kX9_isIn l D cy (i1 := i2) (i2 := 0) (i3 := x_31 - 1) hx_35) mX9_isIn u_1298 u_1299 6 [] [0, 1, 2, 3, 4, 5] rfl (by decide +kernel) rfl rfl rfl rfl (Nat.le_of_ble_eq_true rfl) (Nat.le_of_ble_eq_true rfl) (Nat.le_of_ble_eq_true rfl) (Nat.le_of_ble_eq_true rfl) (Nat.le_of_ble_eq_true rfl) dd_X9_plain_1.2.1 rfl (fun _ _ hp => hp.2) (fun v_36 hp_38 => ?_)
    obtain ⟨rfl, -⟩ := hp_38
    refine xr_st (st' := [.int x_35, .ref g]) rfl ?_
    refine xr_if_ne (tgt := 39) (n := 35) C dd_X9_plain_1.2.2.1 rfl rfl (fun c_39 => ?_) (fun c_39 => ?_)
    · replace hE_19 := yf_f c_39 hE_19
      refine xr_iconst (n := 40) (v := 0) C dd_X9_plain_1.2.2.2.2.2.1 rfl rfl ?_
      have e_40 := Option.some.inj hE_19
      subst e_40
      exact J_19
    · replace hE_19 := yf_t c_39 hE_19
      refine xr_iconst (n := 36) (v := 1) C dd_X9_plain_1.2.2.2.1 rfl rfl ?_
      refine xr_goto (tgt := 40) C dd_X9_plain_1.2.2.2.2.1 rfl ?_
      have e_41 := Option.some.inj hE_19
      subst e_41
      exact J_19
theorem dd_X9_beats_0 : dk_R cX9_beats [(0, .aload_n 0, 1), (1, .iload_n 1, 1), (2, .iconst 1, 1), (3, .bipush 31, 2), (5, .invokestatic 75, 3), (8, .ifCond .eq 13, 3), (11, .iload_n 2, 1), (12, .iconst 1, 1), (13, .bipush 31, 2), (15, .invokestatic 75, 3), (18, .ifCond .ne 7, 3), (21, .iconst 1, 1), (22, .goto 4, 3), (25, .iconst 0, 1), (26, .iconst 1, 1), (27, .invokevirtual 79, 3)] := dk_use _ _ (by decide +kernel)
theorem dd_X9_beats_1 : dk_R cX9_beats [(30, .ifCond .eq 7, 3), (33, .iconst 0, 1), (34, .goto 32, 3), (37, .aload_n 0, 1), (38, .iload_n 1, 1), (39, .iload_n 2, 1), (40, .invokevirtual 123, 3), (43, .ifCond .eq 7, 3), (46, .iconst (-1), 1), (47, .goto 19, 3), (50, .aload_n 0, 1), (51, .getfield 16, 3), (54, .iload_n 1, 1), (55, .iload_n 2, 1), (56, .aload_n 0, 1), (57, .getfield 16, 3)] := dk_use _ _ (by decide +kernel)
theorem dd_X9_beats_2 : dk_R cX9_beats [(60, .invokevirtual 120, 3), (63, .invokestatic 126, 3), (66, .ireturn, 1)] := dk_use _ _ (by decide +kernel)
def fX9_beats_i (gwr : Int32) (gwk : Int32) (gwc : Int32) (gwg : Int32) (gws : Int32) (gwan : Nat) (gwak : Nat) (gwaG : Nat → Nat → Int32) (gwbn : Nat) (gwbk : Nat) (gwbG : Nat → Nat → Int32) (gKG : Nat → Nat → Int32) (i1 : Int32) (i2 : Int32) : Option (Int32 × Int32) := ((fX9_isIn i1 1 31).bind fun x_1 => ((((if x_1 = 0 then some 1 else ((fX9_isIn i2 1 31).bind fun x_32 => (if x_32 = 0 then some 1 else some 0))) : Option (Int32))).bind fun r_11 => ((fX9_start_i r_11 1).bind fun x_12 => (if x_12.1 = 0 then ((fX9_crosses_i gKG i1 i2).bind fun x_17 => (if x_17 = 0 then ((fX8_steps gwk gwg gwan gwak gwaG gwbn gwbk gwbG).bind fun x_22 => ((fX9_beatsOf gwr gwc gws i1 i2 x_22).bind fun x_26 => some (x_26, x_12.2))) else some (-1, x_12.2))) else some (0, x_12.2)))))
abbrev hX9_beats : Cond := .code yX9_beats cX9_beats 3 (some .int)
theorem mX9_beats : yM yX9_beats hX9_beats 2 := ⟨u_1559, u_64, by decide +kernel, by decide +kernel, by decide +kernel⟩
set_option maxHeartbeats 4000000 in
set_option maxRecDepth 100000 in
theorem kX9_beats_i (l : Launch) (D : va_G) (cy : Nat → ClassId) (g : Nat) (gth : Int32) (gw : Nat) (gB : Nat) (gK : Nat) (gU : Nat) (gS : Nat) (gbe : Int32) (gwo : Int32) (gta : Int64) (glr : Int32) (glc : Int32) (gti : Int32) (ggo : Int32) (gR : Nat) (gch : Int32) (gD : Nat) (gwr : Int32) (gwk : Int32) (gwc : Int32) (gwg : Int32) (gws : Int32) (gwa : Nat) (gwb : Nat) (gwad : Nat → Nat) (gwan : Nat) (gwak : Nat) (gwaG : Nat → Nat → Int32) (gwbd : Nat → Nat) (gwbn : Nat) (gwbk : Nat) (gwbG : Nat → Nat → Int32) (gKd : Nat → Nat) (gKG : Nat → Nat → Int32) (i1 : Int32) (i2 : Int32) {res : Int32 × Int32} (hR : fX9_beats_i gwr gwk gwc gwg gws gwan gwak gwaG gwbn gwbk gwbG gKG i1 i2 = some res) : YM l D cy yX9_beats hX9_beats 4 0 0 [.ref g, .int i1, .int i2] [[(g, .inr (11, [.int gth, .ref gw, .ref gB, .ref gK, .ref gU, .ref gS, .int gbe, .int gwo, .long gta, .null, .int glr, .int glc, .int gti, .int ggo, .ref gR, .int gch, .ref gD]))], [(gw, .inr (10, [.int gwr, .int gwk, .int gwc, .int gwg, .int gws, .ref gwa, .ref gwb]))], [(gwa, .inl (cy 3, gwan, .inr (.inr (.inr (.inr (yad gwad))))))], xg_rows gwad gwan (cy 1) gwak gwaG, [(gwb, .inl (cy 3, gwbn, .inr (.inr (.inr (.inr (yad gwbd))))))], xg_rows gwbd gwbn (cy 1) gwbk gwbG, [(gK, .inl (cy 4, 5, .inr (.inr (.inr (.inr (yad gKd))))))], xg_rows gKd 5 (cy 2) 5 gKG] (fun v u => v = some (.int res.1) ∧ u = [[(g, .inr (11, [.int res.2, .ref gw, .ref gB, .ref gK, .ref gU, .ref gS, .int gbe, .int gwo, .long gta, .null, .int glr, .int glc, .int gti, .int ggo, .ref gR, .int gch, .ref gD]))], [(gw, .inr (10, [.int gwr, .int gwk, .int gwc, .int gwg, .int gws, .ref gwa, .ref gwb]))], [(gwa, .inl (cy 3, gwan, .inr (.inr (.inr (.inr (yad gwad))))))], xg_rows gwad gwan (cy 1) gwak gwaG, [(gwb, .inl (cy 3, gwbn, .inr (.inr (.inr (.inr (yad gwbd))))))], xg_rows gwbd gwbn (cy 1) gwbk gwbG, [(gK, .inl (cy 4, 5, .inr (.inr (.inr (.inr (yad gKd))))))], xg_rows gKd 5 (cy 2) 5 gKG]) := by
  unfold fX9_beats_i at hR
  refine YM.ofI (cc := cX9_beats) (maxL := 3) (ret := (some .int)) (by decide +kernel) rfl (Nat.le_of_ble_eq_true rfl) [(0, .ref g), (1, .int i1), (2, .int i2)] rfl rfl (fun p e s m args below meth c A H0 Q C hnm ret => ?_)
  refine xr_aload_n (n := 1) (j := 0) C dd_X9_beats_0.1 rfl rfl ?_
  refine xr_iload_n (n := 2) (j := 1) C dd_X9_beats_0.2.1 rfl rfl ?_
  refine xr_iconst (n := 3) (v := 1) C dd_X9_beats_0.2.2.1 rfl rfl ?_
  refine xr_bipush (n := 5) (v := 31) C dd_X9_beats_0.2.2.2.1 rfl rfl ?_
  obtain ⟨x_1, hx_1, hR⟩ := yf_b hR
  refine xr_callSp (n := 8) (As := [.int i1, .int 1, .int 31]) (rest := [.ref g]) C (kX9_isIn l D cy (i1 := i1) (i2 := 1) (i3 := 31) hx_1) mX9_isIn u_1298 u_1299 8 [] [0, 1, 2, 3, 4, 5, 6, 7] rfl (by decide +kernel) rfl rfl rfl rfl (Nat.le_of_ble_eq_true rfl) (Nat.le_of_ble_eq_true rfl) (Nat.le_of_ble_eq_true rfl) (Nat.le_of_ble_eq_true rfl) (Nat.le_of_ble_eq_true rfl) dd_X9_beats_0.2.2.2.2.1 rfl (fun _ _ hp => hp.2) (fun v_2 hp_4 => ?_)
  obtain ⟨rfl, -⟩ := hp_4
  refine xr_st (st' := [.int x_1, .ref g]) rfl ?_
  obtain ⟨r_11, hE_11, hR⟩ := yf_b hR
  have J_11 : X p l e (yR 4 0 0) s m args below meth c D A H0 3 Q [[(g, .inr (11, [.int gth, .ref gw, .ref gB, .ref gK, .ref gU, .ref gS, .int gbe, .int gwo, .long gta, .null, .int glr, .int glc, .int gti, .int ggo, .ref gR, .int gch, .ref gD]))], [(gw, .inr (10, [.int gwr, .int gwk, .int gwc, .int gwg, .int gws, .ref gwa, .ref gwb]))], [(gwa, .inl (cy 3, gwan, .inr (.inr (.inr (.inr (yad gwad))))))], xg_rows gwad gwan (cy 1) gwak gwaG, [(gwb, .inl (cy 3, gwbn, .inr (.inr (.inr (.inr (yad gwbd))))))], xg_rows gwbd gwbn (cy 1) gwbk gwbG, [(gK, .inl (cy 4, 5, .inr (.inr (.inr (.inr (yad gKd))))))], xg_rows gKd 5 (cy 2) 5 gKG] 0 0 [(0, .ref g), (1, .int i1), (2, .int i2)] 26 [.int r_11, .ref g] := by
    refine xr_iconst (n := 27) (v := 1) C dd_X9_beats_0.2.2.2.2.2.2.2.2.2.2.2.2.2.2.1 rfl rfl ?_
    obtain ⟨x_12, hx_12, hR⟩ := yf_b hR
    refine xr_callV (n := 30) (As := [.int r_11, .int 1]) (rest := []) C (kX9_start_i l D cy (g := g) (gth := gth) (gw := gw) (gB := gB) (gK := gK) (gU := gU) (gS := gS) (gbe := gbe) (gwo := gwo) (gta := gta) (glr := glr) (glc := glc) (gti := gti) (ggo := ggo) (gR := gR) (gch := gch) (gD := gD) (i1 := r_11) (i2 := 1) hx_12) mX9_start u_1301 u_1303 u_29 0 rfl rfl 8 [0] [1, 2, 3, 4, 5, 6, 7] rfl (by decide +kernel) rfl rfl rfl rfl (Nat.le_of_ble_eq_true rfl) (Nat.le_of_ble_eq_true rfl) (Nat.le_of_ble_eq_true rfl) (Nat.le_of_ble_eq_true rfl) (Nat.le_of_ble_eq_true rfl) dd_X9_beats_0.2.2.2.2.2.2.2.2.2.2.2.2.2.2.2.1 rfl (fun v_13 u_14 hp_15 => ?_)
    obtain ⟨rfl, rfl⟩ := hp_15
    refine xr_perm C 8 [0, 1, 2, 3, 4, 5, 6, 7] [] [[(g, .inr (11, [.int x_12.2, .ref gw, .ref gB, .ref gK, .ref gU, .ref gS, .int gbe, .int gwo, .long gta, .null, .int glr, .int glc, .int gti, .int ggo, .ref gR, .int gch, .ref gD]))], [(gw, .inr (10, [.int gwr, .int gwk, .int gwc, .int gwg, .int gws, .ref gwa, .ref gwb]))], [(gwa, .inl (cy 3, gwan, .inr (.inr (.inr (.inr (yad gwad))))))], xg_rows gwad gwan (cy 1) gwak gwaG, [(gwb, .inl (cy 3, gwbn, .inr (.inr (.inr (.inr (yad gwbd))))))], xg_rows gwbd gwbn (cy 1) gwbk gwbG, [(gK, .inl (cy 4, 5, .inr (.inr (.inr (.inr (yad gKd))))))], xg_rows gKd 5 (cy 2) 5 gKG] rfl (by decide +kernel) rfl ?_
    refine xr_st (st' := [.int x_12.1]) rfl ?_
    refine xr_if_eq (tgt := 37) (n := 33) C dd_X9_beats_1.1 rfl rfl (fun c_16 => ?_) (fun c_16 => ?_)
    · replace hR := yf_t c_16 hR
      refine xr_aload_n (n := 38) (j := 0) C dd_X9_beats_1.2.2.2.1 rfl rfl ?_
      refine xr_iload_n (n := 39) (j := 1) C dd_X9_beats_1.2.2.2.2.1 rfl rfl ?_
      refine xr_iload_n (n := 40) (j := 2) C dd_X9_beats_1.2.2.2.2.2.1 rfl rfl ?_
      obtain ⟨x_17, hx_17, hR⟩ := yf_b hR
      refine xr_callVp (n := 43) (As := [.int i1, .int i2]) (rest := []) C (kX9_crosses_i l D cy (g := g) (gth := x_12.2) (gw := gw) (gB := gB) (gK := gK) (gU := gU) (gS := gS) (gbe := gbe) (gwo := gwo) (gta := gta) (glr := glr) (glc := glc) (gti := gti) (ggo := ggo) (gR := gR) (gch := gch) (gD := gD) (gKd := gKd) (gKG := gKG) (i1 := i1) (i2 := i2) hx_17) mX9_crosses u_1373 u_1375 u_33 0 rfl rfl 8 [0, 6, 7] [1, 2, 3, 4, 5] rfl (by decide +kernel) rfl rfl rfl rfl (Nat.le_of_ble_eq_true rfl) (Nat.le_of_ble_eq_true rfl) (Nat.le_of_ble_eq_true rfl) (Nat.le_of_ble_eq_true rfl) (Nat.le_of_ble_eq_true rfl) dd_X9_beats_1.2.2.2.2.2.2.1 rfl (fun _ _ hp => hp.2) (fun v_18 hp_20 => ?_)
      obtain ⟨rfl, -⟩ := hp_20
      refine xr_st (st' := [.int x_17]) rfl ?_
      refine xr_if_eq (tgt := 50) (n := 46) C dd_X9_beats_1.2.2.2.2.2.2.2.1 rfl rfl (fun c_21 => ?_) (fun c_21 => ?_)
      · replace hR := yf_t c_21 hR
        refine xr_aload_n (n := 51) (j := 0) C dd_X9_beats_1.2.2.2.2.2.2.2.2.2.2.1 rfl rfl ?_
        refine xr_get (n := 54) C 0 rfl rfl 1 (by decide) in_X9 u_1238 rfl (v := .ref gw) rfl dd_X9_beats_1.2.2.2.2.2.2.2.2.2.2.2.1 rfl ?_
        refine xr_iload_n (n := 55) (j := 1) C dd_X9_beats_1.2.2.2.2.2.2.2.2.2.2.2.2.1 rfl rfl ?_
        refine xr_iload_n (n := 56) (j := 2) C dd_X9_beats_1.2.2.2.2.2.2.2.2.2.2.2.2.2.1 rfl rfl ?_
        refine xr_aload_n (n := 57) (j := 0) C dd_X9_beats_1.2.2.2.2.2.2.2.2.2.2.2.2.2.2.1 rfl rfl ?_
        refine xr_get (n := 60) C 0 rfl rfl 1 (by decide) in_X9 u_1238 rfl (v := .ref gw) rfl dd_X9_beats_1.2.2.2.2.2.2.2.2.2.2.2.2.2.2.2.1 rfl ?_
        obtain ⟨x_22, hx_22, hR⟩ := yf_b hR
        refine xr_callVp (n := 63) (As := []) (rest := [.int i2, .int i1, .ref gw]) C (kX8_steps l D cy (w := gw) (wr := gwr) (wk := gwk) (wc := gwc) (wg := gwg) (ws := gws) (wa := gwa) (wb := gwb) (wad := gwad) (wan := gwan) (wak := gwak) (waG := gwaG) (wbd := gwbd) (wbn := gwbn) (wbk := gwbk) (wbG := gwbG) hx_22) mX8_steps u_1359 u_1360 u_1361 1 rfl rfl 8 [1, 2, 3, 4, 5] [0, 6, 7] rfl (by decide +kernel) rfl rfl rfl rfl (Nat.le_of_ble_eq_true rfl) (Nat.le_of_ble_eq_true rfl) (Nat.le_of_ble_eq_true rfl) (Nat.le_of_ble_eq_true rfl) (Nat.le_of_ble_eq_true rfl) dd_X9_beats_2.1 rfl (fun _ _ hp => hp.2) (fun v_23 hp_25 => ?_)
        obtain ⟨rfl, -⟩ := hp_25
        refine xr_st (st' := [.int x_22, .int i2, .int i1, .ref gw]) rfl ?_
        obtain ⟨x_26, hx_26, hR⟩ := yf_b hR
        refine xr_callSp (n := 66) (As := [.ref gw, .int i1, .int i2, .int x_22]) (rest := []) C (kX9_beatsOf l D cy (w := gw) (wr := gwr) (wk := gwk) (wc := gwc) (wg := gwg) (ws := gws) (wa := gwa) (wb := gwb) (i1 := i1) (i2 := i2) (i3 := x_22) hx_26) mX9_beatsOf u_1380 u_1381 8 [1] [0, 2, 3, 4, 5, 6, 7] rfl (by decide +kernel) rfl rfl rfl rfl (Nat.le_of_ble_eq_true rfl) (Nat.le_of_ble_eq_true rfl) (Nat.le_of_ble_eq_true rfl) (Nat.le_of_ble_eq_true rfl) (Nat.le_of_ble_eq_true rfl) dd_X9_beats_2.2.1 rfl (fun _ _ hp => hp.2) (fun v_27 hp_29 => ?_)
        obtain ⟨rfl, -⟩ := hp_29
        refine xr_st (st' := [.int x_26]) rfl ?_
        obtain rfl := Option.some.inj hR
        exact ret x_26 ⟨rfl, rfl⟩ (Nat.le_of_ble_eq_true rfl) (Nat.le_of_ble_eq_true rfl) dd_X9_beats_2.2.2.1
      · replace hR := yf_f c_21 hR
        refine xr_iconst (n := 47) (v := -1) C dd_X9_beats_1.2.2.2.2.2.2.2.2.1 rfl rfl ?_
        refine xr_goto (tgt := 66) C dd_X9_beats_1.2.2.2.2.2.2.2.2.2.1 rfl ?_
        obtain rfl := Option.some.inj hR
        exact ret (-1) ⟨rfl, rfl⟩ (Nat.le_of_ble_eq_true rfl) (Nat.le_of_ble_eq_true rfl) dd_X9_beats_2.2.2.1
    · replace hR := yf_f c_16 hR
      refine xr_iconst (n := 34) (v := 0) C dd_X9_beats_1.2.1 rfl rfl ?_
      refine xr_goto (tgt := 66) C dd_X9_beats_1.2.2.1 rfl ?_
      obtain rfl := Option.some.inj hR
      exact ret 0 ⟨rfl, rfl⟩ (Nat.le_of_ble_eq_true rfl) (Nat.le_of_ble_eq_true rfl) dd_X9_beats_2.2.2.1
  refine xr_if_eq (tgt := 21) (n := 11) C dd_X9_beats_0.2.2.2.2.2.1 rfl rfl (fun c_30 => ?_) (fun c_30 => ?_)
  · replace hE_11 := yf_t c_30 hE_11
    refine xr_iconst (n := 22) (v := 1) C dd_X9_beats_0.2.2.2.2.2.2.2.2.2.2.2.1 rfl rfl ?_
    refine xr_goto (tgt := 26) C dd_X9_beats_0.2.2.2.2.2.2.2.2.2.2.2.2.1 rfl ?_
    have e_31 := Option.some.inj hE_11
    subst e_31
    exact J_11
  · replace hE_11 := yf_f c_30 hE_11
    refine xr_iload_n (n := 12) (j := 2) C dd_X9_beats_0.2.2.2.2.2.2.1 rfl rfl ?_
    refine xr_iconst (n := 13) (v := 1) C dd_X9_beats_0.2.2.2.2.2.2.2.1 rfl rfl ?_
    refine xr_bipush (n := 15) (v := 31) C dd_X9_beats_0.2.2.2.2.2.2.2.2.1 rfl rfl ?_
    obtain ⟨x_32, hx_32, hE_11⟩ := yf_b hE_11
    refine xr_callSp (n := 18) (As := [.int i2, .int 1, .int 31]) (rest := [.ref g]) C (kX9_isIn l D cy (i1 := i2) (i2 := 1) (i3 := 31) hx_32) mX9_isIn u_1298 u_1299 8 [] [0, 1, 2, 3, 4, 5, 6, 7] rfl (by decide +kernel) rfl rfl rfl rfl (Nat.le_of_ble_eq_true rfl) (Nat.le_of_ble_eq_true rfl) (Nat.le_of_ble_eq_true rfl) (Nat.le_of_ble_eq_true rfl) (Nat.le_of_ble_eq_true rfl) dd_X9_beats_0.2.2.2.2.2.2.2.2.2.1 rfl (fun _ _ hp => hp.2) (fun v_33 hp_35 => ?_)
    obtain ⟨rfl, -⟩ := hp_35
    refine xr_st (st' := [.int x_32, .ref g]) rfl ?_
    refine xr_if_ne (tgt := 25) (n := 21) C dd_X9_beats_0.2.2.2.2.2.2.2.2.2.2.1 rfl rfl (fun c_36 => ?_) (fun c_36 => ?_)
    · replace hE_11 := yf_f c_36 hE_11
      refine xr_iconst (n := 26) (v := 0) C dd_X9_beats_0.2.2.2.2.2.2.2.2.2.2.2.2.2.1 rfl rfl ?_
      have e_37 := Option.some.inj hE_11
      subst e_37
      exact J_11
    · replace hE_11 := yf_t c_36 hE_11
      refine xr_iconst (n := 22) (v := 1) C dd_X9_beats_0.2.2.2.2.2.2.2.2.2.2.2.1 rfl rfl ?_
      refine xr_goto (tgt := 26) C dd_X9_beats_0.2.2.2.2.2.2.2.2.2.2.2.2.1 rfl ?_
      have e_38 := Option.some.inj hE_11
      subst e_38
      exact J_11
def fX9_beats_r (gwr : Int32) (gwk : Int32) (gwc : Int32) (gwg : Int32) (gws : Int32) (gwan : Nat) (gwak : Nat) (gwaG : Nat → Nat → Int32) (gwbn : Nat) (gwbk : Nat) (gwbG : Nat → Nat → Int32) (gKG : Nat → Nat → Int32) (i1 : Int32) (i2 : Int32) : Option (Int32 × Int32) := ((fX9_isIn i1 1 31).bind fun x_1 => ((((if x_1 = 0 then some 1 else ((fX9_isIn i2 1 31).bind fun x_32 => (if x_32 = 0 then some 1 else some 0))) : Option (Int32))).bind fun r_11 => ((fX9_start_r r_11 1).bind fun x_12 => (if x_12.1 = 0 then ((fX9_crosses_r gKG i1 i2).bind fun x_17 => (if x_17 = 0 then ((fX8_steps gwk gwg gwan gwak gwaG gwbn gwbk gwbG).bind fun x_22 => ((fX9_beatsOf gwr gwc gws i1 i2 x_22).bind fun x_26 => some (x_26, x_12.2))) else some (-1, x_12.2))) else some (0, x_12.2)))))
set_option maxHeartbeats 4000000 in
set_option maxRecDepth 100000 in
theorem kX9_beats_r (l : Launch) (D : va_G) (cy : Nat → ClassId) (g : Nat) (gth : Int32) (gw : Nat) (gB : Nat) (gK : Nat) (gU : Nat) (gS : Nat) (gbe : Int32) (gwo : Int32) (gta : Int64) (gn : Nat) (glr : Int32) (glc : Int32) (gti : Int32) (ggo : Int32) (gR : Nat) (gch : Int32) (gD : Nat) (gwr : Int32) (gwk : Int32) (gwc : Int32) (gwg : Int32) (gws : Int32) (gwa : Nat) (gwb : Nat) (gwad : Nat → Nat) (gwan : Nat) (gwak : Nat) (gwaG : Nat → Nat → Int32) (gwbd : Nat → Nat) (gwbn : Nat) (gwbk : Nat) (gwbG : Nat → Nat → Int32) (gKd : Nat → Nat) (gKG : Nat → Nat → Int32) (i1 : Int32) (i2 : Int32) {res : Int32 × Int32} (hR : fX9_beats_r gwr gwk gwc gwg gws gwan gwak gwaG gwbn gwbk gwbG gKG i1 i2 = some res) : YM l D cy yX9_beats hX9_beats 4 0 0 [.ref g, .int i1, .int i2] [[(g, .inr (11, [.int gth, .ref gw, .ref gB, .ref gK, .ref gU, .ref gS, .int gbe, .int gwo, .long gta, .ref gn, .int glr, .int glc, .int gti, .int ggo, .ref gR, .int gch, .ref gD]))], [(gw, .inr (10, [.int gwr, .int gwk, .int gwc, .int gwg, .int gws, .ref gwa, .ref gwb]))], [(gwa, .inl (cy 3, gwan, .inr (.inr (.inr (.inr (yad gwad))))))], xg_rows gwad gwan (cy 1) gwak gwaG, [(gwb, .inl (cy 3, gwbn, .inr (.inr (.inr (.inr (yad gwbd))))))], xg_rows gwbd gwbn (cy 1) gwbk gwbG, [(gK, .inl (cy 4, 5, .inr (.inr (.inr (.inr (yad gKd))))))], xg_rows gKd 5 (cy 2) 5 gKG] (fun v u => v = some (.int res.1) ∧ u = [[(g, .inr (11, [.int res.2, .ref gw, .ref gB, .ref gK, .ref gU, .ref gS, .int gbe, .int gwo, .long gta, .ref gn, .int glr, .int glc, .int gti, .int ggo, .ref gR, .int gch, .ref gD]))], [(gw, .inr (10, [.int gwr, .int gwk, .int gwc, .int gwg, .int gws, .ref gwa, .ref gwb]))], [(gwa, .inl (cy 3, gwan, .inr (.inr (.inr (.inr (yad gwad))))))], xg_rows gwad gwan (cy 1) gwak gwaG, [(gwb, .inl (cy 3, gwbn, .inr (.inr (.inr (.inr (yad gwbd))))))], xg_rows gwbd gwbn (cy 1) gwbk gwbG, [(gK, .inl (cy 4, 5, .inr (.inr (.inr (.inr (yad gKd))))))], xg_rows gKd 5 (cy 2) 5 gKG]) := by
  unfold fX9_beats_r at hR
  refine YM.ofI (cc := cX9_beats) (maxL := 3) (ret := (some .int)) (by decide +kernel) rfl (Nat.le_of_ble_eq_true rfl) [(0, .ref g), (1, .int i1), (2, .int i2)] rfl rfl (fun p e s m args below meth c A H0 Q C hnm ret => ?_)
  refine xr_aload_n (n := 1) (j := 0) C dd_X9_beats_0.1 rfl rfl ?_
  refine xr_iload_n (n := 2) (j := 1) C dd_X9_beats_0.2.1 rfl rfl ?_
  refine xr_iconst (n := 3) (v := 1) C dd_X9_beats_0.2.2.1 rfl rfl ?_
  refine xr_bipush (n := 5) (v := 31) C dd_X9_beats_0.2.2.2.1 rfl rfl ?_
  obtain ⟨x_1, hx_1, hR⟩ := yf_b hR
  refine xr_callSp (n := 8) (As := [.int i1, .int 1, .int 31]) (rest := [.ref g]) C (kX9_isIn l D cy (i1 := i1) (i2 := 1) (i3 := 31) hx_1) mX9_isIn u_1298 u_1299 8 [] [0, 1, 2, 3, 4, 5, 6, 7] rfl (by decide +kernel) rfl rfl rfl rfl (Nat.le_of_ble_eq_true rfl) (Nat.le_of_ble_eq_true rfl) (Nat.le_of_ble_eq_true rfl) (Nat.le_of_ble_eq_true rfl) (Nat.le_of_ble_eq_true rfl) dd_X9_beats_0.2.2.2.2.1 rfl (fun _ _ hp => hp.2) (fun v_2 hp_4 => ?_)
  obtain ⟨rfl, -⟩ := hp_4
  refine xr_st (st' := [.int x_1, .ref g]) rfl ?_
  obtain ⟨r_11, hE_11, hR⟩ := yf_b hR
  have J_11 : X p l e (yR 4 0 0) s m args below meth c D A H0 3 Q [[(g, .inr (11, [.int gth, .ref gw, .ref gB, .ref gK, .ref gU, .ref gS, .int gbe, .int gwo, .long gta, .ref gn, .int glr, .int glc, .int gti, .int ggo, .ref gR, .int gch, .ref gD]))], [(gw, .inr (10, [.int gwr, .int gwk, .int gwc, .int gwg, .int gws, .ref gwa, .ref gwb]))], [(gwa, .inl (cy 3, gwan, .inr (.inr (.inr (.inr (yad gwad))))))], xg_rows gwad gwan (cy 1) gwak gwaG, [(gwb, .inl (cy 3, gwbn, .inr (.inr (.inr (.inr (yad gwbd))))))], xg_rows gwbd gwbn (cy 1) gwbk gwbG, [(gK, .inl (cy 4, 5, .inr (.inr (.inr (.inr (yad gKd))))))], xg_rows gKd 5 (cy 2) 5 gKG] 0 0 [(0, .ref g), (1, .int i1), (2, .int i2)] 26 [.int r_11, .ref g] := by
    refine xr_iconst (n := 27) (v := 1) C dd_X9_beats_0.2.2.2.2.2.2.2.2.2.2.2.2.2.2.1 rfl rfl ?_
    obtain ⟨x_12, hx_12, hR⟩ := yf_b hR
    refine xr_callV (n := 30) (As := [.int r_11, .int 1]) (rest := []) C (kX9_start_r l D cy (g := g) (gth := gth) (gw := gw) (gB := gB) (gK := gK) (gU := gU) (gS := gS) (gbe := gbe) (gwo := gwo) (gta := gta) (gn := gn) (glr := glr) (glc := glc) (gti := gti) (ggo := ggo) (gR := gR) (gch := gch) (gD := gD) (i1 := r_11) (i2 := 1) hx_12) mX9_start u_1301 u_1303 u_29 0 rfl rfl 8 [0] [1, 2, 3, 4, 5, 6, 7] rfl (by decide +kernel) rfl rfl rfl rfl (Nat.le_of_ble_eq_true rfl) (Nat.le_of_ble_eq_true rfl) (Nat.le_of_ble_eq_true rfl) (Nat.le_of_ble_eq_true rfl) (Nat.le_of_ble_eq_true rfl) dd_X9_beats_0.2.2.2.2.2.2.2.2.2.2.2.2.2.2.2.1 rfl (fun v_13 u_14 hp_15 => ?_)
    obtain ⟨rfl, rfl⟩ := hp_15
    refine xr_perm C 8 [0, 1, 2, 3, 4, 5, 6, 7] [] [[(g, .inr (11, [.int x_12.2, .ref gw, .ref gB, .ref gK, .ref gU, .ref gS, .int gbe, .int gwo, .long gta, .ref gn, .int glr, .int glc, .int gti, .int ggo, .ref gR, .int gch, .ref gD]))], [(gw, .inr (10, [.int gwr, .int gwk, .int gwc, .int gwg, .int gws, .ref gwa, .ref gwb]))], [(gwa, .inl (cy 3, gwan, .inr (.inr (.inr (.inr (yad gwad))))))], xg_rows gwad gwan (cy 1) gwak gwaG, [(gwb, .inl (cy 3, gwbn, .inr (.inr (.inr (.inr (yad gwbd))))))], xg_rows gwbd gwbn (cy 1) gwbk gwbG, [(gK, .inl (cy 4, 5, .inr (.inr (.inr (.inr (yad gKd))))))], xg_rows gKd 5 (cy 2) 5 gKG] rfl (by decide +kernel) rfl ?_
    refine xr_st (st' := [.int x_12.1]) rfl ?_
    refine xr_if_eq (tgt := 37) (n := 33) C dd_X9_beats_1.1 rfl rfl (fun c_16 => ?_) (fun c_16 => ?_)
    · replace hR := yf_t c_16 hR
      refine xr_aload_n (n := 38) (j := 0) C dd_X9_beats_1.2.2.2.1 rfl rfl ?_
      refine xr_iload_n (n := 39) (j := 1) C dd_X9_beats_1.2.2.2.2.1 rfl rfl ?_
      refine xr_iload_n (n := 40) (j := 2) C dd_X9_beats_1.2.2.2.2.2.1 rfl rfl ?_
      obtain ⟨x_17, hx_17, hR⟩ := yf_b hR
      refine xr_callVp (n := 43) (As := [.int i1, .int i2]) (rest := []) C (kX9_crosses_r l D cy (g := g) (gth := x_12.2) (gw := gw) (gB := gB) (gK := gK) (gU := gU) (gS := gS) (gbe := gbe) (gwo := gwo) (gta := gta) (gn := gn) (glr := glr) (glc := glc) (gti := gti) (ggo := ggo) (gR := gR) (gch := gch) (gD := gD) (gKd := gKd) (gKG := gKG) (i1 := i1) (i2 := i2) hx_17) mX9_crosses u_1373 u_1375 u_33 0 rfl rfl 8 [0, 6, 7] [1, 2, 3, 4, 5] rfl (by decide +kernel) rfl rfl rfl rfl (Nat.le_of_ble_eq_true rfl) (Nat.le_of_ble_eq_true rfl) (Nat.le_of_ble_eq_true rfl) (Nat.le_of_ble_eq_true rfl) (Nat.le_of_ble_eq_true rfl) dd_X9_beats_1.2.2.2.2.2.2.1 rfl (fun _ _ hp => hp.2) (fun v_18 hp_20 => ?_)
      obtain ⟨rfl, -⟩ := hp_20
      refine xr_st (st' := [.int x_17]) rfl ?_
      refine xr_if_eq (tgt := 50) (n := 46) C dd_X9_beats_1.2.2.2.2.2.2.2.1 rfl rfl (fun c_21 => ?_) (fun c_21 => ?_)
      · replace hR := yf_t c_21 hR
        refine xr_aload_n (n := 51) (j := 0) C dd_X9_beats_1.2.2.2.2.2.2.2.2.2.2.1 rfl rfl ?_
        refine xr_get (n := 54) C 0 rfl rfl 1 (by decide) in_X9 u_1238 rfl (v := .ref gw) rfl dd_X9_beats_1.2.2.2.2.2.2.2.2.2.2.2.1 rfl ?_
        refine xr_iload_n (n := 55) (j := 1) C dd_X9_beats_1.2.2.2.2.2.2.2.2.2.2.2.2.1 rfl rfl ?_
        refine xr_iload_n (n := 56) (j := 2) C dd_X9_beats_1.2.2.2.2.2.2.2.2.2.2.2.2.2.1 rfl rfl ?_
        refine xr_aload_n (n := 57) (j := 0) C dd_X9_beats_1.2.2.2.2.2.2.2.2.2.2.2.2.2.2.1 rfl rfl ?_
        refine xr_get (n := 60) C 0 rfl rfl 1 (by decide) in_X9 u_1238 rfl (v := .ref gw) rfl dd_X9_beats_1.2.2.2.2.2.2.2.2.2.2.2.2.2.2.2.1 rfl ?_
        obtain ⟨x_22, hx_22, hR⟩ := yf_b hR
        refine xr_callVp (n := 63) (As := []) (rest := [.int i2, .int i1, .ref gw]) C (kX8_steps l D cy (w := gw) (wr := gwr) (wk := gwk) (wc := gwc) (wg := gwg) (ws := gws) (wa := gwa) (wb := gwb) (wad := gwad) (wan := gwan) (wak := gwak) (waG := gwaG) (wbd := gwbd) (wbn := gwbn) (wbk := gwbk) (wbG := gwbG) hx_22) mX8_steps u_1359 u_1360 u_1361 1 rfl rfl 8 [1, 2, 3, 4, 5] [0, 6, 7] rfl (by decide +kernel) rfl rfl rfl rfl (Nat.le_of_ble_eq_true rfl) (Nat.le_of_ble_eq_true rfl) (Nat.le_of_ble_eq_true rfl) (Nat.le_of_ble_eq_true rfl) (Nat.le_of_ble_eq_true rfl) dd_X9_beats_2.1 rfl (fun _ _ hp => hp.2) (fun v_23 hp_25 => ?_)
        obtain ⟨rfl, -⟩ := hp_25
        refine xr_st (st' := [.int x_22, .int i2, .int i1, .ref gw]) rfl ?_
        obtain ⟨x_26, hx_26, hR⟩ := yf_b hR
        refine xr_callSp (n := 66) (As := [.ref gw, .int i1, .int i2, .int x_22]) (rest := []) C (kX9_beatsOf l D cy (w := gw) (wr := gwr) (wk := gwk) (wc := gwc) (wg := gwg) (ws := gws) (wa := gwa) (wb := gwb) (i1 := i1) (i2 := i2) (i3 := x_22) hx_26) mX9_beatsOf u_1380 u_1381 8 [1] [0, 2, 3, 4, 5, 6, 7] rfl (by decide +kernel) rfl rfl rfl rfl (Nat.le_of_ble_eq_true rfl) (Nat.le_of_ble_eq_true rfl) (Nat.le_of_ble_eq_true rfl) (Nat.le_of_ble_eq_true rfl) (Nat.le_of_ble_eq_true rfl) dd_X9_beats_2.2.1 rfl (fun _ _ hp => hp.2) (fun v_27 hp_29 => ?_)
        obtain ⟨rfl, -⟩ := hp_29
        refine xr_st (st' := [.int x_26]) rfl ?_
        obtain rfl := Option.some.inj hR
        exact ret x_26 ⟨rfl, rfl⟩ (Nat.le_of_ble_eq_true rfl) (Nat.le_of_ble_eq_true rfl) dd_X9_beats_2.2.2.1
      · replace hR := yf_f c_21 hR
        refine xr_iconst (n := 47) (v := -1) C dd_X9_beats_1.2.2.2.2.2.2.2.2.1 rfl rfl ?_
        refine xr_goto (tgt := 66) C dd_X9_beats_1.2.2.2.2.2.2.2.2.2.1 rfl ?_
        obtain rfl := Option.some.inj hR
        exact ret (-1) ⟨rfl, rfl⟩ (Nat.le_of_ble_eq_true rfl) (Nat.le_of_ble_eq_true rfl) dd_X9_beats_2.2.2.1
    · replace hR := yf_f c_16 hR
      refine xr_iconst (n := 34) (v := 0) C dd_X9_beats_1.2.1 rfl rfl ?_
      refine xr_goto (tgt := 66) C dd_X9_beats_1.2.2.1 rfl ?_
      obtain rfl := Option.some.inj hR
      exact ret 0 ⟨rfl, rfl⟩ (Nat.le_of_ble_eq_true rfl) (Nat.le_of_ble_eq_true rfl) dd_X9_beats_2.2.2.1
  refine xr_if_eq (tgt := 21) (n := 11) C dd_X9_beats_0.2.2.2.2.2.1 rfl rfl (fun c_30 => ?_) (fun c_30 => ?_)
  · replace hE_11 := yf_t c_30 hE_11
    refine xr_iconst (n := 22) (v := 1) C dd_X9_beats_0.2.2.2.2.2.2.2.2.2.2.2.1 rfl rfl ?_
    refine xr_goto (tgt := 26) C dd_X9_beats_0.2.2.2.2.2.2.2.2.2.2.2.2.1 rfl ?_
    have e_31 := Option.some.inj hE_11
    subst e_31
    exact J_11
  · replace hE_11 := yf_f c_30 hE_11
    refine xr_iload_n (n := 12) (j := 2) C dd_X9_beats_0.2.2.2.2.2.2.1 rfl rfl ?_
    refine xr_iconst (n := 13) (v := 1) C dd_X9_beats_0.2.2.2.2.2.2.2.1 rfl rfl ?_
    refine xr_bipush (n := 15) (v := 31) C dd_X9_beats_0.2.2.2.2.2.2.2.2.1 rfl rfl ?_
    obtain ⟨x_32, hx_32, hE_11⟩ := yf_b hE_11
    refine xr_callSp (n := 18) (As := [.int i2, .int 1, .int 31]) (rest := [.ref g]) C (kX9_isIn l D cy (i1 := i2) (i2 := 1) (i3 := 31) hx_32) mX9_isIn u_1298 u_1299 8 [] [0, 1, 2, 3, 4, 5, 6, 7] rfl (by decide +kernel) rfl rfl rfl rfl (Nat.le_of_ble_eq_true rfl) (Nat.le_of_ble_eq_true rfl) (Nat.le_of_ble_eq_true rfl) (Nat.le_of_ble_eq_true rfl) (Nat.le_of_ble_eq_true rfl) dd_X9_beats_0.2.2.2.2.2.2.2.2.2.1 rfl (fun _ _ hp => hp.2) (fun v_33 hp_35 => ?_)
    obtain ⟨rfl, -⟩ := hp_35
    refine xr_st (st' := [.int x_32, .ref g]) rfl ?_
    refine xr_if_ne (tgt := 25) (n := 21) C dd_X9_beats_0.2.2.2.2.2.2.2.2.2.2.1 rfl rfl (fun c_36 => ?_) (fun c_36 => ?_)
    · replace hE_11 := yf_f c_36 hE_11
      refine xr_iconst (n := 26) (v := 0) C dd_X9_beats_0.2.2.2.2.2.2.2.2.2.2.2.2.2.1 rfl rfl ?_
      have e_37 := Option.some.inj hE_11
      subst e_37
      exact J_11
    · replace hE_11 := yf_t c_36 hE_11
      refine xr_iconst (n := 22) (v := 1) C dd_X9_beats_0.2.2.2.2.2.2.2.2.2.2.2.1 rfl rfl ?_
      refine xr_goto (tgt := 26) C dd_X9_beats_0.2.2.2.2.2.2.2.2.2.2.2.2.1 rfl ?_
      have e_38 := Option.some.inj hE_11
      subst e_38
      exact J_11
theorem dX9_lay_30 : decode cX9_lay 30 = .ok (.multianewarray 30 2, 4) := by decide +kernel
theorem dX9_lay_43 : decode cX9_lay 43 = .ok (.multianewarray 30 2, 4) := by decide +kernel
theorem dd_X9_lay_0 : dk_R cX9_lay [(0, .aload_n 0, 1), (1, .getfield 16, 3), (4, .iload_n 1, 1), (5, .putfield 48, 3), (8, .aload_n 0, 1), (9, .getfield 16, 3), (12, .iload_n 2, 1), (13, .putfield 52, 3), (16, .aload_n 0, 1), (17, .getfield 16, 3), (20, .iload_n 3, 1), (21, .putfield 55, 3), (24, .aload_n 0, 1), (25, .getfield 16, 3), (28, .iload_n 1, 1), (29, .iload_n 2, 1)] := dk_use _ _ (by decide +kernel)
theorem dd_X9_lay_1 : dk_R cX9_lay [(34, .putfield 58, 3), (37, .aload_n 0, 1), (38, .getfield 16, 3), (41, .iload_n 2, 1), (42, .iload_n 3, 1), (47, .putfield 61, 3), (50, .return_, 1)] := dk_use _ _ (by decide +kernel)
def fX9_lay_i (i1 : Int32) (i2 : Int32) (i3 : Int32) : Option (Int32 × Int32 × Int32 × Nat × Nat × (Nat → Nat → Int32) × Nat × Nat × (Nat → Nat → Int32)) := (if ¬ i1 < 0 ∧ ¬ i2 < 0 ∧ i1.toNatClampNeg ≤ 9 ∧ i2.toNatClampNeg ≤ 9 then (if ¬ i2 < 0 ∧ ¬ i3 < 0 ∧ i2.toNatClampNeg ≤ 9 ∧ i3.toNatClampNeg ≤ 9 then some (i1, i2, i3, i1.toNatClampNeg, i2.toNatClampNeg, fun _ _ => 0, i2.toNatClampNeg, i3.toNatClampNeg, fun _ _ => 0) else none) else none)
abbrev hX9_lay : Cond := .code yX9_lay cX9_lay 4 none
theorem mX9_lay : yM yX9_lay hX9_lay 3 := ⟨u_1236, u_64, by decide +kernel, by decide +kernel, by decide +kernel⟩
set_option maxHeartbeats 4000000 in
set_option maxRecDepth 100000 in
theorem kX9_lay_i (l : Launch) (D : va_G) (cy : Nat → ClassId) (g : Nat) (gth : Int32) (gw : Nat) (gB : Nat) (gK : Nat) (gU : Nat) (gS : Nat) (gbe : Int32) (gwo : Int32) (gta : Int64) (glr : Int32) (glc : Int32) (gti : Int32) (ggo : Int32) (gR : Nat) (gch : Int32) (gD : Nat) (gwr : Int32) (gwk : Int32) (gwc : Int32) (gwg : Int32) (gws : Int32) (gwa : Nat) (gwb : Nat) (i1 : Int32) (i2 : Int32) (i3 : Int32) {res : Int32 × Int32 × Int32 × Nat × Nat × (Nat → Nat → Int32) × Nat × Nat × (Nat → Nat → Int32)} (hR : fX9_lay_i i1 i2 i3 = some res) : YM l D cy yX9_lay hX9_lay 1 20 180 [.ref g, .int i1, .int i2, .int i3] [[(g, .inr (11, [.int gth, .ref gw, .ref gB, .ref gK, .ref gU, .ref gS, .int gbe, .int gwo, .long gta, .null, .int glr, .int glc, .int gti, .int ggo, .ref gR, .int gch, .ref gD]))], [(gw, .inr (10, [.int gwr, .int gwk, .int gwc, .int gwg, .int gws, .ref gwa, .ref gwb]))]] (fun v u => ∃ gwa : Nat, ∃ gwb : Nat, ∃ gwad : Nat → Nat, ∃ gwbd : Nat → Nat, v = none ∧ u = [[(g, .inr (11, [.int gth, .ref gw, .ref gB, .ref gK, .ref gU, .ref gS, .int gbe, .int gwo, .long gta, .null, .int glr, .int glc, .int gti, .int ggo, .ref gR, .int gch, .ref gD]))], [(gw, .inr (10, [.int res.1, .int res.2.1, .int res.2.2.1, .int gwg, .int gws, .ref gwa, .ref gwb]))], [(gwa, .inl (cy 3, res.2.2.2.1, .inr (.inr (.inr (.inr (yad gwad))))))], xg_rows gwad res.2.2.2.1 (cy 1) res.2.2.2.2.1 res.2.2.2.2.2.1, [(gwb, .inl (cy 3, res.2.2.2.2.2.2.1, .inr (.inr (.inr (.inr (yad gwbd))))))], xg_rows gwbd res.2.2.2.2.2.2.1 (cy 1) res.2.2.2.2.2.2.2.1 res.2.2.2.2.2.2.2.2]) := by
  unfold fX9_lay_i at hR
  refine YM.ofV (cc := cX9_lay) (maxL := 4) (ret := none) (by decide +kernel) rfl (Nat.le_of_ble_eq_true rfl) [(0, .ref g), (1, .int i1), (2, .int i2), (3, .int i3)] rfl rfl (fun p e s m args below meth c A H0 Q C hnm ret => ?_)
  refine xr_aload_n (n := 1) (j := 0) C dd_X9_lay_0.1 rfl rfl ?_
  refine xr_get (n := 4) C 0 rfl rfl 1 (by decide) in_X9 u_1238 rfl (v := .ref gw) rfl dd_X9_lay_0.2.1 rfl ?_
  refine xr_iload_n (n := 5) (j := 1) C dd_X9_lay_0.2.2.1 rfl rfl ?_
  refine xr_put (n := 8) C 1 rfl rfl 0 (by decide) in_X8 tyX8 tyX8_ok nmX8 u_1201 rfl rfl rfl rfl (Nat.le_of_ble_eq_true rfl) [[(g, .inr (11, [.int gth, .ref gw, .ref gB, .ref gK, .ref gU, .ref gS, .int gbe, .int gwo, .long gta, .null, .int glr, .int glc, .int gti, .int ggo, .ref gR, .int gch, .ref gD]))], [(gw, .inr (10, [.int i1, .int gwk, .int gwc, .int gwg, .int gws, .ref gwa, .ref gwb]))]] rfl rfl dd_X9_lay_0.2.2.2.1 ?_
  refine xr_aload_n (n := 9) (j := 0) C dd_X9_lay_0.2.2.2.2.1 rfl rfl ?_
  refine xr_get (n := 12) C 0 rfl rfl 1 (by decide) in_X9 u_1238 rfl (v := .ref gw) rfl dd_X9_lay_0.2.2.2.2.2.1 rfl ?_
  refine xr_iload_n (n := 13) (j := 2) C dd_X9_lay_0.2.2.2.2.2.2.1 rfl rfl ?_
  refine xr_put (n := 16) C 1 rfl rfl 1 (by decide) in_X8 tyX8 tyX8_ok nmX8 u_1202 rfl rfl rfl rfl (Nat.le_of_ble_eq_true rfl) [[(g, .inr (11, [.int gth, .ref gw, .ref gB, .ref gK, .ref gU, .ref gS, .int gbe, .int gwo, .long gta, .null, .int glr, .int glc, .int gti, .int ggo, .ref gR, .int gch, .ref gD]))], [(gw, .inr (10, [.int i1, .int i2, .int gwc, .int gwg, .int gws, .ref gwa, .ref gwb]))]] rfl rfl dd_X9_lay_0.2.2.2.2.2.2.2.1 ?_
  refine xr_aload_n (n := 17) (j := 0) C dd_X9_lay_0.2.2.2.2.2.2.2.2.1 rfl rfl ?_
  refine xr_get (n := 20) C 0 rfl rfl 1 (by decide) in_X9 u_1238 rfl (v := .ref gw) rfl dd_X9_lay_0.2.2.2.2.2.2.2.2.2.1 rfl ?_
  refine xr_iload_n (n := 21) (j := 3) C dd_X9_lay_0.2.2.2.2.2.2.2.2.2.2.1 rfl rfl ?_
  refine xr_put (n := 24) C 1 rfl rfl 2 (by decide) in_X8 tyX8 tyX8_ok nmX8 u_1205 rfl rfl rfl rfl (Nat.le_of_ble_eq_true rfl) [[(g, .inr (11, [.int gth, .ref gw, .ref gB, .ref gK, .ref gU, .ref gS, .int gbe, .int gwo, .long gta, .null, .int glr, .int glc, .int gti, .int ggo, .ref gR, .int gch, .ref gD]))], [(gw, .inr (10, [.int i1, .int i2, .int i3, .int gwg, .int gws, .ref gwa, .ref gwb]))]] rfl rfl dd_X9_lay_0.2.2.2.2.2.2.2.2.2.2.2.1 ?_
  refine xr_aload_n (n := 25) (j := 0) C dd_X9_lay_0.2.2.2.2.2.2.2.2.2.2.2.2.1 rfl rfl ?_
  refine xr_get (n := 28) C 0 rfl rfl 1 (by decide) in_X9 u_1238 rfl (v := .ref gw) rfl dd_X9_lay_0.2.2.2.2.2.2.2.2.2.2.2.2.2.1 rfl ?_
  refine xr_iload_n (n := 29) (j := 1) C dd_X9_lay_0.2.2.2.2.2.2.2.2.2.2.2.2.2.2.1 rfl rfl ?_
  refine xr_iload_n (n := 30) (j := 2) C dd_X9_lay_0.2.2.2.2.2.2.2.2.2.2.2.2.2.2.2.1 rfl rfl ?_
  obtain ⟨g_3, hR⟩ := yf_g hR
  refine xr_mnaI (n := 34) (N' := i1.toNatClampNeg) (K' := i2.toNatClampNeg) (cb := 10) (sb := 90) C u_1231 (by decide) u_108 g_3.1 g_3.2.1 rfl rfl g_3.2.2.1 g_3.2.2.2 (by have := g_3.2.2.1; omega) (ymul9 g_3.2.2.1 g_3.2.2.2) (Nat.le_of_ble_eq_true rfl) (Nat.le_of_ble_eq_true rfl) dX9_lay_30 rfl (fun q_1 ad_2 => ?_)
  refine xr_eq (bs' := [[(g, .inr (11, [.int gth, .ref gw, .ref gB, .ref gK, .ref gU, .ref gS, .int gbe, .int gwo, .long gta, .null, .int glr, .int glc, .int gti, .int ggo, .ref gR, .int gch, .ref gD]))], [(gw, .inr (10, [.int i1, .int i2, .int i3, .int gwg, .int gws, .ref gwa, .ref gwb]))], [(q_1, .inl (cy 3, i1.toNatClampNeg, .inr (.inr (.inr (.inr (yad ad_2))))))], xg_rows ad_2 i1.toNatClampNeg (cy 1) i2.toNatClampNeg (fun _ _ => 0)]) rfl ?_
  refine xr_put (n := 37) C 1 rfl rfl 5 (by decide) in_X8 tyX8 tyX8_ok nmX8 u_1211 rfl rfl rfl rfl (Nat.le_of_ble_eq_true rfl) [[(g, .inr (11, [.int gth, .ref gw, .ref gB, .ref gK, .ref gU, .ref gS, .int gbe, .int gwo, .long gta, .null, .int glr, .int glc, .int gti, .int ggo, .ref gR, .int gch, .ref gD]))], [(gw, .inr (10, [.int i1, .int i2, .int i3, .int gwg, .int gws, .ref q_1, .ref gwb]))], [(q_1, .inl (cy 3, i1.toNatClampNeg, .inr (.inr (.inr (.inr (yad ad_2))))))], xg_rows ad_2 i1.toNatClampNeg (cy 1) i2.toNatClampNeg (fun _ _ => 0)] rfl rfl dd_X9_lay_1.1 ?_
  refine xr_aload_n (n := 38) (j := 0) C dd_X9_lay_1.2.1 rfl rfl ?_
  refine xr_get (n := 41) C 0 rfl rfl 1 (by decide) in_X9 u_1238 rfl (v := .ref gw) rfl dd_X9_lay_1.2.2.1 rfl ?_
  refine xr_iload_n (n := 42) (j := 2) C dd_X9_lay_1.2.2.2.1 rfl rfl ?_
  refine xr_iload_n (n := 43) (j := 3) C dd_X9_lay_1.2.2.2.2.1 rfl rfl ?_
  obtain ⟨g_6, hR⟩ := yf_g hR
  refine xr_mnaI (n := 47) (N' := i2.toNatClampNeg) (K' := i3.toNatClampNeg) (cb := 10) (sb := 90) C u_1231 (by decide) u_108 g_6.1 g_6.2.1 rfl rfl g_6.2.2.1 g_6.2.2.2 (by have := g_6.2.2.1; omega) (ymul9 g_6.2.2.1 g_6.2.2.2) (Nat.le_of_ble_eq_true rfl) (Nat.le_of_ble_eq_true rfl) dX9_lay_43 rfl (fun q_4 ad_5 => ?_)
  refine xr_eq (bs' := [[(g, .inr (11, [.int gth, .ref gw, .ref gB, .ref gK, .ref gU, .ref gS, .int gbe, .int gwo, .long gta, .null, .int glr, .int glc, .int gti, .int ggo, .ref gR, .int gch, .ref gD]))], [(gw, .inr (10, [.int i1, .int i2, .int i3, .int gwg, .int gws, .ref q_1, .ref gwb]))], [(q_1, .inl (cy 3, i1.toNatClampNeg, .inr (.inr (.inr (.inr (yad ad_2))))))], xg_rows ad_2 i1.toNatClampNeg (cy 1) i2.toNatClampNeg (fun _ _ => 0), [(q_4, .inl (cy 3, i2.toNatClampNeg, .inr (.inr (.inr (.inr (yad ad_5))))))], xg_rows ad_5 i2.toNatClampNeg (cy 1) i3.toNatClampNeg (fun _ _ => 0)]) rfl ?_
  refine xr_put (n := 50) C 1 rfl rfl 6 (by decide) in_X8 tyX8 tyX8_ok nmX8 u_1213 rfl rfl rfl rfl (Nat.le_of_ble_eq_true rfl) [[(g, .inr (11, [.int gth, .ref gw, .ref gB, .ref gK, .ref gU, .ref gS, .int gbe, .int gwo, .long gta, .null, .int glr, .int glc, .int gti, .int ggo, .ref gR, .int gch, .ref gD]))], [(gw, .inr (10, [.int i1, .int i2, .int i3, .int gwg, .int gws, .ref q_1, .ref q_4]))], [(q_1, .inl (cy 3, i1.toNatClampNeg, .inr (.inr (.inr (.inr (yad ad_2))))))], xg_rows ad_2 i1.toNatClampNeg (cy 1) i2.toNatClampNeg (fun _ _ => 0), [(q_4, .inl (cy 3, i2.toNatClampNeg, .inr (.inr (.inr (.inr (yad ad_5))))))], xg_rows ad_5 i2.toNatClampNeg (cy 1) i3.toNatClampNeg (fun _ _ => 0)] rfl rfl dd_X9_lay_1.2.2.2.2.2.1 ?_
  obtain rfl := Option.some.inj hR
  exact ret ⟨q_1, q_4, ad_2, ad_5, rfl, rfl⟩ (Nat.le_of_ble_eq_true rfl) (Nat.le_of_ble_eq_true rfl) dd_X9_lay_1.2.2.2.2.2.2.1
