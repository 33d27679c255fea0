theorem u_1587 : Cond.code yX9_bestTold0 cX9_bestTold0 2 (some .int) ∈ yU := yu_tables_1_7 91 (by decide +kernel) (by decide +kernel)
theorem u_1584 : Cond.methodLink RX9 275 yX9_bestTold0 ∈ yU := yu_tables_1_7 88 (by decide +kernel) (by decide +kernel)
theorem u_1586 : Cond.instanceMethod yX9_bestTold0 ∈ yU := yu_tables_1_7 90 (by decide +kernel) (by decide +kernel)
theorem u_55 : Cond.selects RX9 yX9_bestTold0 yX9_bestTold0 ∈ yU := yu 55 (by decide +kernel) (by decide +kernel)
theorem u_1583 : Cond.code yX9_isWhole cX9_isWhole 6 (some .boolean) ∈ yU := yu_tables_1_7 87 (by decide +kernel) (by decide +kernel)
theorem u_1580 : Cond.methodLink RX9 279 yX9_isWhole ∈ yU := yu_tables_1_7 84 (by decide +kernel) (by decide +kernel)
theorem u_1582 : Cond.instanceMethod yX9_isWhole ∈ yU := yu_tables_1_7 86 (by decide +kernel) (by decide +kernel)
theorem u_54 : Cond.selects RX9 yX9_isWhole yX9_isWhole ∈ yU := yu 54 (by decide +kernel) (by decide +kernel)
theorem u_1579 : Cond.code yX9_isSound cX9_isSound 1 (some .boolean) ∈ yU := yu_tables_1_7 83 (by decide +kernel) (by decide +kernel)
theorem dd_X9_bestTold0_0 : dk_R cX9_bestTold0 [(0, .aload_n 0, 1), (1, .getfield 16, 3), (4, .aload_n 1, 1), (5, .iconst 0, 1), (6, .iaload, 1), (7, .aload_n 1, 1), (8, .iconst 1, 1), (9, .iaload, 1), (10, .aload_n 0, 1), (11, .getfield 16, 3), (14, .invokevirtual 120, 3), (17, .invokestatic 126, 3), (20, .ireturn, 1)] := dk_use _ _ (by decide +kernel)
def fX9_bestTold0_i (gwr : Int32) (gwk : Int32) (gwc : Int32) (gwg : Int32) (gws : Int32) (gwan : Nat) (gwak : Nat) (gwaG : Nat → Nat → Int32) (gwbn : Nat) (gwbk : Nat) (gwbG : Nat → Nat → Int32) (bf : Nat → Int32) (bn : Nat) : Option (Int32) := (if ¬ ((0 : Int32) < 0 ∨ bn ≤ (0 : Int32).toNatClampNeg) then (if ¬ ((1 : Int32) < 0 ∨ bn ≤ (1 : Int32).toNatClampNeg) then ((fX8_steps gwk gwg gwan gwak gwaG gwbn gwbk gwbG).bind fun x_3 => ((fX9_beatsOf gwr gwc gws (bf (0 : Int32).toNatClampNeg) (bf (1 : Int32).toNatClampNeg) x_3).bind fun x_7 => some x_7)) else none) else none)
abbrev hX9_bestTold0 : Cond := .code yX9_bestTold0 cX9_bestTold0 2 (some .int)
theorem mX9_bestTold0 : yM yX9_bestTold0 hX9_bestTold0 1 := ⟨u_1587, u_64, by decide +kernel, by decide +kernel, by decide +kernel⟩
set_option maxHeartbeats 4000000 in
set_option maxRecDepth 100000 in
theorem kX9_bestTold0_i (l : Launch) (D : va_G) (cy : Nat → ClassId) (g : Nat) (gth : Int32) (gw : Nat) (gB : Nat) (gK : Nat) (gU : Nat) (gS : Nat) (gbe : Int32) (gwo : Int32) (gta : Int64) (glr : Int32) (glc : Int32) (gti : Int32) (ggo : Int32) (gR : Nat) (gch : Int32) (gD : Nat) (gwr : Int32) (gwk : Int32) (gwc : Int32) (gwg : Int32) (gws : Int32) (gwa : Nat) (gwb : Nat) (gwad : Nat → Nat) (gwan : Nat) (gwak : Nat) (gwaG : Nat → Nat → Int32) (gwbd : Nat → Nat) (gwbn : Nat) (gwbk : Nat) (gwbG : Nat → Nat → Int32) (bq : Nat) (bf : Nat → Int32) (bn : Nat) {res : Int32} (hR : fX9_bestTold0_i gwr gwk gwc gwg gws gwan gwak gwaG gwbn gwbk gwbG bf bn = some res) : YM l D cy yX9_bestTold0 hX9_bestTold0 4 0 0 [.ref g, .ref bq] [[(g, .inr (11, [.int gth, .ref gw, .ref gB, .ref gK, .ref gU, .ref gS, .int gbe, .int gwo, .long gta, .null, .int glr, .int glc, .int gti, .int ggo, .ref gR, .int gch, .ref gD]))], [(gw, .inr (10, [.int gwr, .int gwk, .int gwc, .int gwg, .int gws, .ref gwa, .ref gwb]))], [(gwa, .inl (cy 3, gwan, .inr (.inr (.inr (.inr (yad gwad))))))], xg_rows gwad gwan (cy 1) gwak gwaG, [(gwb, .inl (cy 3, gwbn, .inr (.inr (.inr (.inr (yad gwbd))))))], xg_rows gwbd gwbn (cy 1) gwbk gwbG, [(bq, .inl (cy 1, bn, .inl bf))]] (fun v u => v = some (.int res) ∧ u = [[(g, .inr (11, [.int gth, .ref gw, .ref gB, .ref gK, .ref gU, .ref gS, .int gbe, .int gwo, .long gta, .null, .int glr, .int glc, .int gti, .int ggo, .ref gR, .int gch, .ref gD]))], [(gw, .inr (10, [.int gwr, .int gwk, .int gwc, .int gwg, .int gws, .ref gwa, .ref gwb]))], [(gwa, .inl (cy 3, gwan, .inr (.inr (.inr (.inr (yad gwad))))))], xg_rows gwad gwan (cy 1) gwak gwaG, [(gwb, .inl (cy 3, gwbn, .inr (.inr (.inr (.inr (yad gwbd))))))], xg_rows gwbd gwbn (cy 1) gwbk gwbG, [(bq, .inl (cy 1, bn, .inl bf))]]) := by
  unfold fX9_bestTold0_i at hR
  refine YM.ofI (cc := cX9_bestTold0) (maxL := 2) (ret := (some .int)) (by decide +kernel) rfl (Nat.le_of_ble_eq_true rfl) [(0, .ref g), (1, .ref bq)] rfl rfl (fun p e s m args below meth c A H0 Q C hnm ret => ?_)
  refine xr_aload_n (n := 1) (j := 0) C dd_X9_bestTold0_0.1 rfl rfl ?_
  refine xr_get (n := 4) C 0 rfl rfl 1 (by decide) in_X9 u_1238 rfl (v := .ref gw) rfl dd_X9_bestTold0_0.2.1 rfl ?_
  refine xr_aload_n (n := 5) (j := 1) C dd_X9_bestTold0_0.2.2.1 rfl rfl ?_
  refine xr_iconst (n := 6) (v := 0) C dd_X9_bestTold0_0.2.2.2.1 rfl rfl ?_
  obtain ⟨g_1, hR⟩ := yf_g hR
  refine xr_iald (n := 7) C 6 0 rfl rfl g_1 dd_X9_bestTold0_0.2.2.2.2.1 rfl ?_
  refine xr_aload_n (n := 8) (j := 1) C dd_X9_bestTold0_0.2.2.2.2.2.1 rfl rfl ?_
  refine xr_iconst (n := 9) (v := 1) C dd_X9_bestTold0_0.2.2.2.2.2.2.1 rfl rfl ?_
  obtain ⟨g_2, hR⟩ := yf_g hR
  refine xr_iald (n := 10) C 6 0 rfl rfl g_2 dd_X9_bestTold0_0.2.2.2.2.2.2.2.1 rfl ?_
  refine xr_aload_n (n := 11) (j := 0) C dd_X9_bestTold0_0.2.2.2.2.2.2.2.2.1 rfl rfl ?_
  refine xr_get (n := 14) C 0 rfl rfl 1 (by decide) in_X9 u_1238 rfl (v := .ref gw) rfl dd_X9_bestTold0_0.2.2.2.2.2.2.2.2.2.1 rfl ?_
  obtain ⟨x_3, hx_3, hR⟩ := yf_b hR
  refine xr_callVp (n := 17) (As := []) (rest := [.int (bf (1 : Int32).toNatClampNeg), .int (bf (0 : Int32).toNatClampNeg), .ref gw]) C (kX8_steps l D cy (w := gw) (wr := gwr) (wk := gwk) (wc := gwc) (wg := gwg) (ws := gws) (wa := gwa) (wb := gwb) (wad := gwad) (wan := gwan) (wak := gwak) (waG := gwaG) (wbd := gwbd) (wbn := gwbn) (wbk := gwbk) (wbG := gwbG) hx_3) mX8_steps u_1359 u_1360 u_1361 1 rfl rfl 7 [1, 2, 3, 4, 5] [0, 6] rfl (by decide +kernel) rfl rfl rfl rfl (Nat.le_of_ble_eq_true rfl) (Nat.le_of_ble_eq_true rfl) (Nat.le_of_ble_eq_true rfl) (Nat.le_of_ble_eq_true rfl) (Nat.le_of_ble_eq_true rfl) dd_X9_bestTold0_0.2.2.2.2.2.2.2.2.2.2.1 rfl (fun _ _ hp => hp.2) (fun v_4 hp_6 => ?_)
  obtain ⟨rfl, -⟩ := hp_6
  refine xr_st (st' := [.int x_3, .int (bf (1 : Int32).toNatClampNeg), .int (bf (0 : Int32).toNatClampNeg), .ref gw]) rfl ?_
  obtain ⟨x_7, hx_7, hR⟩ := yf_b hR
  refine xr_callSp (n := 20) (As := [.ref gw, .int (bf (0 : Int32).toNatClampNeg), .int (bf (1 : Int32).toNatClampNeg), .int x_3]) (rest := []) C (kX9_beatsOf l D cy (w := gw) (wr := gwr) (wk := gwk) (wc := gwc) (wg := gwg) (ws := gws) (wa := gwa) (wb := gwb) (i1 := bf (0 : Int32).toNatClampNeg) (i2 := bf (1 : Int32).toNatClampNeg) (i3 := x_3) hx_7) mX9_beatsOf u_1380 u_1381 7 [1] [0, 2, 3, 4, 5, 6] rfl (by decide +kernel) rfl rfl rfl rfl (Nat.le_of_ble_eq_true rfl) (Nat.le_of_ble_eq_true rfl) (Nat.le_of_ble_eq_true rfl) (Nat.le_of_ble_eq_true rfl) (Nat.le_of_ble_eq_true rfl) dd_X9_bestTold0_0.2.2.2.2.2.2.2.2.2.2.2.1 rfl (fun _ _ hp => hp.2) (fun v_8 hp_10 => ?_)
  obtain ⟨rfl, -⟩ := hp_10
  refine xr_st (st' := [.int x_7]) rfl ?_
  obtain rfl := Option.some.inj hR
  exact ret x_7 ⟨rfl, rfl⟩ (Nat.le_of_ble_eq_true rfl) (Nat.le_of_ble_eq_true rfl) dd_X9_bestTold0_0.2.2.2.2.2.2.2.2.2.2.2.2.1
def fX9_bestTold0_r (gwr : Int32) (gwk : Int32) (gwc : Int32) (gwg : Int32) (gws : Int32) (gwan : Nat) (gwak : Nat) (gwaG : Nat → Nat → Int32) (gwbn : Nat) (gwbk : Nat) (gwbG : Nat → Nat → Int32) (bf : Nat → Int32) (bn : Nat) : Option (Int32) := (if ¬ ((0 : Int32) < 0 ∨ bn ≤ (0 : Int32).toNatClampNeg) then (if ¬ ((1 : Int32) < 0 ∨ bn ≤ (1 : Int32).toNatClampNeg) then ((fX8_steps gwk gwg gwan gwak gwaG gwbn gwbk gwbG).bind fun x_3 => ((fX9_beatsOf gwr gwc gws (bf (0 : Int32).toNatClampNeg) (bf (1 : Int32).toNatClampNeg) x_3).bind fun x_7 => some x_7)) else none) else none)
set_option maxHeartbeats 4000000 in
set_option maxRecDepth 100000 in
theorem kX9_bestTold0_r (l : Launch) (D : va_G) (cy : Nat → ClassId) (g : Nat) (gth : Int32) (gw : Nat) (gB : Nat) (gK : Nat) (gU : Nat) (gS : Nat) (gbe : Int32) (gwo : Int32) (gta : Int64) (gn : Nat) (glr : Int32) (glc : Int32) (gti : Int32) (ggo : Int32) (gR : Nat) (gch : Int32) (gD : Nat) (gwr : Int32) (gwk : Int32) (gwc : Int32) (gwg : Int32) (gws : Int32) (gwa : Nat) (gwb : Nat) (gwad : Nat → Nat) (gwan : Nat) (gwak : Nat) (gwaG : Nat → Nat → Int32) (gwbd : Nat → Nat) (gwbn : Nat) (gwbk : Nat) (gwbG : Nat → Nat → Int32) (bq : Nat) (bf : Nat → Int32) (bn : Nat) {res : Int32} (hR : fX9_bestTold0_r gwr gwk gwc gwg gws gwan gwak gwaG gwbn gwbk gwbG bf bn = some res) : YM l D cy yX9_bestTold0 hX9_bestTold0 4 0 0 [.ref g, .ref bq] [[(g, .inr (11, [.int gth, .ref gw, .ref gB, .ref gK, .ref gU, .ref gS, .int gbe, .int gwo, .long gta, .ref gn, .int glr, .int glc, .int gti, .int ggo, .ref gR, .int gch, .ref gD]))], [(gw, .inr (10, [.int gwr, .int gwk, .int gwc, .int gwg, .int gws, .ref gwa, .ref gwb]))], [(gwa, .inl (cy 3, gwan, .inr (.inr (.inr (.inr (yad gwad))))))], xg_rows gwad gwan (cy 1) gwak gwaG, [(gwb, .inl (cy 3, gwbn, .inr (.inr (.inr (.inr (yad gwbd))))))], xg_rows gwbd gwbn (cy 1) gwbk gwbG, [(bq, .inl (cy 1, bn, .inl bf))]] (fun v u => v = some (.int res) ∧ u = [[(g, .inr (11, [.int gth, .ref gw, .ref gB, .ref gK, .ref gU, .ref gS, .int gbe, .int gwo, .long gta, .ref gn, .int glr, .int glc, .int gti, .int ggo, .ref gR, .int gch, .ref gD]))], [(gw, .inr (10, [.int gwr, .int gwk, .int gwc, .int gwg, .int gws, .ref gwa, .ref gwb]))], [(gwa, .inl (cy 3, gwan, .inr (.inr (.inr (.inr (yad gwad))))))], xg_rows gwad gwan (cy 1) gwak gwaG, [(gwb, .inl (cy 3, gwbn, .inr (.inr (.inr (.inr (yad gwbd))))))], xg_rows gwbd gwbn (cy 1) gwbk gwbG, [(bq, .inl (cy 1, bn, .inl bf))]]) := by
  unfold fX9_bestTold0_r at hR
  refine YM.ofI (cc := cX9_bestTold0) (maxL := 2) (ret := (some .int)) (by decide +kernel) rfl (Nat.le_of_ble_eq_true rfl) [(0, .ref g), (1, .ref bq)] rfl rfl (fun p e s m args below meth c A H0 Q C hnm ret => ?_)
  refine xr_aload_n (n := 1) (j := 0) C dd_X9_bestTold0_0.1 rfl rfl ?_
  refine xr_get (n := 4) C 0 rfl rfl 1 (by decide) in_X9 u_1238 rfl (v := .ref gw) rfl dd_X9_bestTold0_0.2.1 rfl ?_
  refine xr_aload_n (n := 5) (j := 1) C dd_X9_bestTold0_0.2.2.1 rfl rfl ?_
  refine xr_iconst (n := 6) (v := 0) C dd_X9_bestTold0_0.2.2.2.1 rfl rfl ?_
  obtain ⟨g_1, hR⟩ := yf_g hR
  refine xr_iald (n := 7) C 6 0 rfl rfl g_1 dd_X9_bestTold0_0.2.2.2.2.1 rfl ?_
  refine xr_aload_n (n := 8) (j := 1) C dd_X9_bestTold0_0.2.2.2.2.2.1 rfl rfl ?_
  refine xr_iconst (n := 9) (v := 1) C dd_X9_bestTold0_0.2.2.2.2.2.2.1 rfl rfl ?_
  obtain ⟨g_2, hR⟩ := yf_g hR
  refine xr_iald (n := 10) C 6 0 rfl rfl g_2 dd_X9_bestTold0_0.2.2.2.2.2.2.2.1 rfl ?_
  refine xr_aload_n (n := 11) (j := 0) C dd_X9_bestTold0_0.2.2.2.2.2.2.2.2.1 rfl rfl ?_
  refine xr_get (n := 14) C 0 rfl rfl 1 (by decide) in_X9 u_1238 rfl (v := .ref gw) rfl dd_X9_bestTold0_0.2.2.2.2.2.2.2.2.2.1 rfl ?_
  obtain ⟨x_3, hx_3, hR⟩ := yf_b hR
  refine xr_callVp (n := 17) (As := []) (rest := [.int (bf (1 : Int32).toNatClampNeg), .int (bf (0 : Int32).toNatClampNeg), .ref gw]) C (kX8_steps l D cy (w := gw) (wr := gwr) (wk := gwk) (wc := gwc) (wg := gwg) (ws := gws) (wa := gwa) (wb := gwb) (wad := gwad) (wan := gwan) (wak := gwak) (waG := gwaG) (wbd := gwbd) (wbn := gwbn) (wbk := gwbk) (wbG := gwbG) hx_3) mX8_steps u_1359 u_1360 u_1361 1 rfl rfl 7 [1, 2, 3, 4, 5] [0, 6] rfl (by decide +kernel) rfl rfl rfl rfl (Nat.le_of_ble_eq_true rfl) (Nat.le_of_ble_eq_true rfl) (Nat.le_of_ble_eq_true rfl) (Nat.le_of_ble_eq_true rfl) (Nat.le_of_ble_eq_true rfl) dd_X9_bestTold0_0.2.2.2.2.2.2.2.2.2.2.1 rfl (fun _ _ hp => hp.2) (fun v_4 hp_6 => ?_)
  obtain ⟨rfl, -⟩ := hp_6
  refine xr_st (st' := [.int x_3, .int (bf (1 : Int32).toNatClampNeg), .int (bf (0 : Int32).toNatClampNeg), .ref gw]) rfl ?_
  obtain ⟨x_7, hx_7, hR⟩ := yf_b hR
  refine xr_callSp (n := 20) (As := [.ref gw, .int (bf (0 : Int32).toNatClampNeg), .int (bf (1 : Int32).toNatClampNeg), .int x_3]) (rest := []) C (kX9_beatsOf l D cy (w := gw) (wr := gwr) (wk := gwk) (wc := gwc) (wg := gwg) (ws := gws) (wa := gwa) (wb := gwb) (i1 := bf (0 : Int32).toNatClampNeg) (i2 := bf (1 : Int32).toNatClampNeg) (i3 := x_3) hx_7) mX9_beatsOf u_1380 u_1381 7 [1] [0, 2, 3, 4, 5, 6] rfl (by decide +kernel) rfl rfl rfl rfl (Nat.le_of_ble_eq_true rfl) (Nat.le_of_ble_eq_true rfl) (Nat.le_of_ble_eq_true rfl) (Nat.le_of_ble_eq_true rfl) (Nat.le_of_ble_eq_true rfl) dd_X9_bestTold0_0.2.2.2.2.2.2.2.2.2.2.2.1 rfl (fun _ _ hp => hp.2) (fun v_8 hp_10 => ?_)
  obtain ⟨rfl, -⟩ := hp_10
  refine xr_st (st' := [.int x_7]) rfl ?_
  obtain rfl := Option.some.inj hR
  exact ret x_7 ⟨rfl, rfl⟩ (Nat.le_of_ble_eq_true rfl) (Nat.le_of_ble_eq_true rfl) dd_X9_bestTold0_0.2.2.2.2.2.2.2.2.2.2.2.2.1
theorem dd_X9_isWhole_0 : dk_R cX9_isWhole [(0, .aload_n 0, 1), (1, .invokevirtual 173, 3), (4, .astore_n 1, 1), (5, .iconst 1, 1), (6, .istore_n 2, 1), (7, .iload_n 2, 1), (8, .bipush 32, 2), (10, .if_icmp .ge 63, 3), (13, .aload_n 1, 1), (14, .arraylength, 1), (15, .ifCond .le 58, 3), (18, .iconst 1, 1), (19, .istore_n 3, 1), (20, .iload_n 3, 1), (21, .bipush 32, 2), (23, .if_icmp .ge 44, 3)] := dk_use _ _ (by decide +kernel)
theorem dd_X9_isWhole_1 : dk_R cX9_isWhole [(26, .aload_n 0, 1), (27, .iload_n 2, 1), (28, .iload_n 3, 1), (29, .invokevirtual 123, 3), (32, .ifCond .ne 29, 3), (35, .aload_n 0, 1), (36, .getfield 16, 3), (39, .iload_n 2, 1), (40, .iload_n 3, 1), (41, .aload_n 0, 1), (42, .getfield 16, 3), (45, .invokevirtual 120, 3), (48, .invokestatic 126, 3), (51, .aload_n 0, 1), (52, .aload_n 1, 1), (53, .invokevirtual 275, 3)] := dk_use _ _ (by decide +kernel)
theorem dd_X9_isWhole_2 : dk_R cX9_isWhole [(56, .if_icmp .ge 5, 3), (59, .iconst 0, 1), (60, .ireturn, 1), (61, .iinc 3 1, 3), (64, .goto (-44), 3), (67, .iinc 2 1, 3), (70, .goto (-63), 3), (73, .aload_n 1, 1), (74, .arraylength, 1), (75, .ifCond .le 18, 3), (78, .aload_n 0, 1), (79, .aload_n 1, 1), (80, .iconst 0, 1), (81, .iaload, 1), (82, .aload_n 1, 1), (83, .iconst 1, 1)] := dk_use _ _ (by decide +kernel)
theorem dd_X9_isWhole_3 : dk_R cX9_isWhole [(84, .iaload, 1), (85, .invokevirtual 123, 3), (88, .ifCond .eq 5, 3), (91, .iconst 0, 1), (92, .ireturn, 1), (93, .lconst 0, 1), (94, .lstore_n 2, 1), (95, .iconst 0, 1), (96, .istore 4, 2), (98, .iload 4, 2), (100, .iconst 5, 1), (101, .if_icmp .ge 66, 3), (104, .iconst 0, 1), (105, .istore 5, 2), (107, .iload 5, 2), (109, .iconst 5, 1)] := dk_use _ _ (by decide +kernel)
theorem dd_X9_isWhole_4 : dk_R cX9_isWhole [(110, .if_icmp .ge 51, 3), (113, .lload_n 2, 1), (114, .aload_n 0, 1), (115, .getfield 32, 3), (118, .iload 4, 2), (120, .aaload, 1), (121, .iload 5, 2), (123, .iaload, 1), (124, .i2l, 1), (125, .ladd, 1), (126, .lstore_n 2, 1), (127, .aload_n 0, 1), (128, .getfield 27, 3), (131, .iload 4, 2), (133, .aaload, 1), (134, .iload 5, 2)] := dk_use _ _ (by decide +kernel)
theorem dd_X9_isWhole_5 : dk_R cX9_isWhole [(136, .baload, 1), (137, .ifCond .eq 18, 3), (140, .aload_n 0, 1), (141, .getfield 24, 3), (144, .iload 4, 2), (146, .aaload, 1), (147, .iload 5, 2), (149, .baload, 1), (150, .ifCond .ne 5, 3), (153, .iconst 0, 1), (154, .ireturn, 1), (155, .iinc 5 1, 3), (158, .goto (-51), 3), (161, .iinc 4 1, 3), (164, .goto (-66), 3), (167, .lload_n 2, 1)] := dk_use _ _ (by decide +kernel)
theorem dd_X9_isWhole_6 : dk_R cX9_isWhole [(168, .aload_n 0, 1), (169, .getfield 209, 3), (172, .lcmp, 1), (173, .ifCond .ne 21, 3), (176, .aload_n 0, 1), (177, .getfield 137, 3), (180, .ifnull 10, 3), (183, .aload_n 0, 1), (184, .invokevirtual 187, 3), (187, .ifCond .le 7, 3), (190, .iconst 1, 1), (191, .goto 4, 3), (194, .iconst 0, 1), (195, .ireturn, 1)] := dk_use _ _ (by decide +kernel)
def fX9_isWhole_i (gta : Int64) (gwr : Int32) (gwk : Int32) (gwc : Int32) (gwg : Int32) (gws : Int32) (gwan : Nat) (gwak : Nat) (gwaG : Nat → Nat → Int32) (gwbn : Nat) (gwbk : Nat) (gwbG : Nat → Nat → Int32) (gBG : Nat → Nat → Int32) (gKG : Nat → Nat → Int32) (gUG : Nat → Nat → Int32) : Option (Int32) := ((fX9_bestLayout_i gwr gwk gwc gwg gws gwan gwak gwaG gwbn gwbk gwbG gKG).bind fun x_1 => ((wl (S := Int32) (B := (Int32) ⊕ Int32) (fun s_6 => (if 32 ≤ s_6 then some (.inr (.inl s_6)) else (if (nI x_1.2) ≤ 0 then some (.inr (.inl s_6)) else ((wl (S := Int32) (B := (Int32) ⊕ Int32) (fun s_55 => (if 32 ≤ s_55 then some (.inr (.inl s_55)) else ((fX9_crosses_i gKG s_6 s_55).bind fun x_58 => (if x_58 = 0 then ((fX8_steps gwk gwg gwan gwak gwaG gwbn gwbk gwbG).bind fun x_63 => ((fX9_beatsOf gwr gwc gws s_6 s_55 x_63).bind fun x_67 => ((fX9_bestTold0_i gwr gwk gwc gwg gws gwan gwak gwaG gwbn gwbk gwbG x_1.1 x_1.2).bind fun x_71 => (if x_71 ≤ x_67 then some (.inl (s_55 + 1)) else some (.inr (.inr 0)))))) else some (.inl (s_55 + 1)))))) yFuel 1).bind fun b_55 => ybr b_55 (fun z_55 => some (.inl (s_6 + 1))) (fun r => some (.inr (.inr r))))))) yFuel 1).bind fun b_6 => ybr b_6 (fun z_6 => (if (nI x_1.2) ≤ 0 then ((wl (S := Int64 × Int32) (B := (Int64 × Int32) ⊕ Int32) (fun s_8 => (if 5 ≤ s_8.2 then some (.inr (.inl (s_8.1, s_8.2))) else ((wl (S := Int64 × Int32) (B := (Int64 × Int32) ⊕ Int32) (fun s_12 => (if 5 ≤ s_12.2 then some (.inr (.inl (s_12.1, s_12.2))) else (if ¬ (s_8.2 < 0 ∨ 5 ≤ s_8.2.toNatClampNeg) then (if ¬ (s_12.2 < 0 ∨ 5 ≤ s_12.2.toNatClampNeg) then (ylet (s_12.1 + ((gUG s_8.2.toNatClampNeg s_12.2.toNatClampNeg).toInt64) : Int64) fun y_17 => (if ¬ (s_8.2 < 0 ∨ 5 ≤ s_8.2.toNatClampNeg) then (if ¬ (s_12.2 < 0 ∨ 5 ≤ s_12.2.toNatClampNeg) then (if (gKG s_8.2.toNatClampNeg s_12.2.toNatClampNeg) = 0 then some (.inl (y_17, s_12.2 + 1)) else (if ¬ (s_8.2 < 0 ∨ 5 ≤ s_8.2.toNatClampNeg) then (if ¬ (s_12.2 < 0 ∨ 5 ≤ s_12.2.toNatClampNeg) then (if (gBG s_8.2.toNatClampNeg s_12.2.toNatClampNeg) = 0 then some (.inr (.inr 0)) else some (.inl (y_17, s_12.2 + 1))) else none) else none)) else none) else none)) else none) else none))) yFuel (s_8.1, 0)).bind fun b_12 => ybr b_12 (fun z_12 => some (.inl (z_12.1, s_8.2 + 1))) (fun r => some (.inr (.inr r)))))) yFuel (0, 0)).bind fun b_8 => ybr b_8 (fun z_8 => (if (lg_cmp z_8.1 gta) = 0 then some 1 else some 0)) (fun r => some r)) else (if ¬ ((0 : Int32) < 0 ∨ x_1.2 ≤ (0 : Int32).toNatClampNeg) then (if ¬ ((1 : Int32) < 0 ∨ x_1.2 ≤ (1 : Int32).toNatClampNeg) then ((fX9_crosses_i gKG (x_1.1 (0 : Int32).toNatClampNeg) (x_1.1 (1 : Int32).toNatClampNeg)).bind fun x_28 => (if x_28 = 0 then ((wl (S := Int64 × Int32) (B := (Int64 × Int32) ⊕ Int32) (fun s_33 => (if 5 ≤ s_33.2 then some (.inr (.inl (s_33.1, s_33.2))) else ((wl (S := Int64 × Int32) (B := (Int64 × Int32) ⊕ Int32) (fun s_37 => (if 5 ≤ s_37.2 then some (.inr (.inl (s_37.1, s_37.2))) else (if ¬ (s_33.2 < 0 ∨ 5 ≤ s_33.2.toNatClampNeg) then (if ¬ (s_37.2 < 0 ∨ 5 ≤ s_37.2.toNatClampNeg) then (ylet (s_37.1 + ((gUG s_33.2.toNatClampNeg s_37.2.toNatClampNeg).toInt64) : Int64) fun y_42 => (if ¬ (s_33.2 < 0 ∨ 5 ≤ s_33.2.toNatClampNeg) then (if ¬ (s_37.2 < 0 ∨ 5 ≤ s_37.2.toNatClampNeg) then (if (gKG s_33.2.toNatClampNeg s_37.2.toNatClampNeg) = 0 then some (.inl (y_42, s_37.2 + 1)) else (if ¬ (s_33.2 < 0 ∨ 5 ≤ s_33.2.toNatClampNeg) then (if ¬ (s_37.2 < 0 ∨ 5 ≤ s_37.2.toNatClampNeg) then (if (gBG s_33.2.toNatClampNeg s_37.2.toNatClampNeg) = 0 then some (.inr (.inr 0)) else some (.inl (y_42, s_37.2 + 1))) else none) else none)) else none) else none)) else none) else none))) yFuel (s_33.1, 0)).bind fun b_37 => ybr b_37 (fun z_37 => some (.inl (z_37.1, s_33.2 + 1))) (fun r => some (.inr (.inr r)))))) yFuel (0, 0)).bind fun b_33 => ybr b_33 (fun z_33 => (if (lg_cmp z_33.1 gta) = 0 then some 1 else some 0)) (fun r => some r)) else some 0)) else none) else none))) (fun r => some r)))
abbrev hX9_isWhole : Cond := .code yX9_isWhole cX9_isWhole 6 (some .boolean)
theorem mX9_isWhole : yM yX9_isWhole hX9_isWhole 0 := ⟨u_1583, u_64, by decide +kernel, by decide +kernel, by decide +kernel⟩
set_option maxHeartbeats 4000000 in
set_option maxRecDepth 100000 in
theorem kX9_isWhole_i (l : Launch) (D : va_G) (cy : Nat → ClassId) (g : Nat) (gth : Int32) (gw : Nat) (gB : Nat) (gK : Nat) (gU : Nat) (gS : Nat) (gbe : Int32) (gwo : Int32) (gta : Int64) (glr : Int32) (glc : Int32) (gti : Int32) (ggo : Int32) (gR : Nat) (gch : Int32) (gD : Nat) (gwr : Int32) (gwk : Int32) (gwc : Int32) (gwg : Int32) (gws : Int32) (gwa : Nat) (gwb : Nat) (gwad : Nat → Nat) (gwan : Nat) (gwak : Nat) (gwaG : Nat → Nat → Int32) (gwbd : Nat → Nat) (gwbn : Nat) (gwbk : Nat) (gwbG : Nat → Nat → Int32) (gBd : Nat → Nat) (gBG : Nat → Nat → Int32) (gKd : Nat → Nat) (gKG : Nat → Nat → Int32) (gUd : Nat → Nat) (gUG : Nat → Nat → Int32) {res : Int32} (hR : fX9_isWhole_i gta gwr gwk gwc gwg gws gwan gwak gwaG gwbn gwbk gwbG gBG gKG gUG = some res) : YM l D cy yX9_isWhole hX9_isWhole 5 30 60 [.ref g] [[(g, .inr (11, [.int gth, .ref gw, .ref gB, .ref gK, .ref gU, .ref gS, .int gbe, .int gwo, .long gta, .null, .int glr, .int glc, .int gti, .int ggo, .ref gR, .int gch, .ref gD]))], [(gw, .inr (10, [.int gwr, .int gwk, .int gwc, .int gwg, .int gws, .ref gwa, .ref gwb]))], [(gwa, .inl (cy 3, gwan, .inr (.inr (.inr (.inr (yad gwad))))))], xg_rows gwad gwan (cy 1) gwak gwaG, [(gwb, .inl (cy 3, gwbn, .inr (.inr (.inr (.inr (yad gwbd))))))], xg_rows gwbd gwbn (cy 1) gwbk gwbG, [(gB, .inl (cy 4, 5, .inr (.inr (.inr (.inr (yad gBd))))))], xg_rows gBd 5 (cy 2) 5 gBG, [(gK, .inl (cy 4, 5, .inr (.inr (.inr (.inr (yad gKd))))))], xg_rows gKd 5 (cy 2) 5 gKG, [(gU, .inl (cy 3, 5, .inr (.inr (.inr (.inr (yad gUd))))))], xg_rows gUd 5 (cy 1) 5 gUG] (fun v u => v = some (.int res) ∧ u = [[(g, .inr (11, [.int gth, .ref gw, .ref gB, .ref gK, .ref gU, .ref gS, .int gbe, .int gwo, .long gta, .null, .int glr, .int glc, .int gti, .int ggo, .ref gR, .int gch, .ref gD]))], [(gw, .inr (10, [.int gwr, .int gwk, .int gwc, .int gwg, .int gws, .ref gwa, .ref gwb]))], [(gwa, .inl (cy 3, gwan, .inr (.inr (.inr (.inr (yad gwad))))))], xg_rows gwad gwan (cy 1) gwak gwaG, [(gwb, .inl (cy 3, gwbn, .inr (.inr (.inr (.inr (yad gwbd))))))], xg_rows gwbd gwbn (cy 1) gwbk gwbG, [(gB, .inl (cy 4, 5, .inr (.inr (.inr (.inr (yad gBd))))))], xg_rows gBd 5 (cy 2) 5 gBG, [(gK, .inl (cy 4, 5, .inr (.inr (.inr (.inr (yad gKd))))))], xg_rows gKd 5 (cy 2) 5 gKG, [(gU, .inl (cy 3, 5, .inr (.inr (.inr (.inr (yad gUd))))))], xg_rows gUd 5 (cy 1) 5 gUG]) := by
  unfold fX9_isWhole_i at hR
  refine YM.ofZ (cc := cX9_isWhole) (maxL := 6) (ret := (some .boolean)) (by decide +kernel) rfl (Nat.le_of_ble_eq_true rfl) [(0, .ref g)] rfl .boolean rfl (fun p e s m args below meth c A H0 Q C hnm ret => ?_)
  refine xr_aload_n (n := 1) (j := 0) C dd_X9_isWhole_0.1 rfl rfl ?_
  obtain ⟨x_1, hx_1, hR⟩ := yf_b hR
  refine xr_callV (n := 4) (As := []) (rest := []) C (kX9_bestLayout_i l D cy (g := g) (gth := gth) (gw := gw) (gB := gB) (gK := gK) (gU := gU) (gS := gS) (gbe := gbe) (gwo := gwo) (gta := gta) (glr := glr) (glc := glc) (gti := gti) (ggo := ggo) (gR := gR) (gch := gch) (gD := gD) (gwr := gwr) (gwk := gwk) (gwc := gwc) (gwg := gwg) (gws := gws) (gwa := gwa) (gwb := gwb) (gwad := gwad) (gwan := gwan) (gwak := gwak) (gwaG := gwaG) (gwbd := gwbd) (gwbn := gwbn) (gwbk := gwbk) (gwbG := gwbG) (gKd := gKd) (gKG := gKG) hx_1) mX9_bestLayout u_1355 u_1357 u_32 0 rfl rfl 12 [0, 1, 2, 3, 4, 5, 8, 9] [6, 7, 10, 11] rfl (by decide +kernel) rfl rfl rfl rfl (Nat.le_of_ble_eq_true rfl) (Nat.le_of_ble_eq_true rfl) (Nat.le_of_ble_eq_true rfl) (Nat.le_of_ble_eq_true rfl) (Nat.le_of_ble_eq_true rfl) dd_X9_isWhole_0.2.1 rfl (fun v_2 u_3 hp_4 => ?_)
  obtain ⟨q_5, rfl, rfl⟩ := hp_4
  refine xr_perm C 13 [0, 1, 2, 3, 4, 5, 9, 10, 6, 7, 11, 12, 8] [] [[(g, .inr (11, [.int gth, .ref gw, .ref gB, .ref gK, .ref gU, .ref gS, .int gbe, .int gwo, .long gta, .null, .int glr, .int glc, .int gti, .int ggo, .ref gR, .int gch, .ref gD]))], [(gw, .inr (10, [.int gwr, .int gwk, .int gwc, .int gwg, .int gws, .ref gwa, .ref gwb]))], [(gwa, .inl (cy 3, gwan, .inr (.inr (.inr (.inr (yad gwad))))))], xg_rows gwad gwan (cy 1) gwak gwaG, [(gwb, .inl (cy 3, gwbn, .inr (.inr (.inr (.inr (yad gwbd))))))], xg_rows gwbd gwbn (cy 1) gwbk gwbG, [(gB, .inl (cy 4, 5, .inr (.inr (.inr (.inr (yad gBd))))))], xg_rows gBd 5 (cy 2) 5 gBG, [(gK, .inl (cy 4, 5, .inr (.inr (.inr (.inr (yad gKd))))))], xg_rows gKd 5 (cy 2) 5 gKG, [(gU, .inl (cy 3, 5, .inr (.inr (.inr (.inr (yad gUd))))))], xg_rows gUd 5 (cy 1) 5 gUG, [(q_5, .inl (cy 1, x_1.2, .inl x_1.1))]] rfl (by decide +kernel) rfl ?_
  refine xr_st (st' := [.ref q_5]) rfl ?_
  refine xr_astore_n (n := 5) C [(1, .ref q_5), (0, .ref g)] dd_X9_isWhole_0.2.2.1 (by decide) rfl rfl ?_
  refine xr_iconst (n := 6) (v := 1) C dd_X9_isWhole_0.2.2.2.1 rfl rfl ?_
  refine xr_istore_n (n := 7) C [(2, .int 1), (1, .ref q_5), (0, .ref g)] dd_X9_isWhole_0.2.2.2.2.1 (by decide) rfl rfl ?_
  refine xr_lv (lv' := [(0, .ref g), (1, .ref q_5), (2, .int 1)]) [2, 1, 0] rfl ?_
  obtain ⟨b_6, hb_6, hR⟩ := yf_b hR
  have K_6 : ∀ z_6, b_6 = .inl z_6 → X p l e (yR 5 30 60) s m args below meth c D A H0 6 Q [[(g, .inr (11, [.int gth, .ref gw, .ref gB, .ref gK, .ref gU, .ref gS, .int gbe, .int gwo, .long gta, .null, .int glr, .int glc, .int gti, .int ggo, .ref gR, .int gch, .ref gD]))], [(gw, .inr (10, [.int gwr, .int gwk, .int gwc, .int gwg, .int gws, .ref gwa, .ref gwb]))], [(gwa, .inl (cy 3, gwan, .inr (.inr (.inr (.inr (yad gwad))))))], xg_rows gwad gwan (cy 1) gwak gwaG, [(gwb, .inl (cy 3, gwbn, .inr (.inr (.inr (.inr (yad gwbd))))))], xg_rows gwbd gwbn (cy 1) gwbk gwbG, [(gB, .inl (cy 4, 5, .inr (.inr (.inr (.inr (yad gBd))))))], xg_rows gBd 5 (cy 2) 5 gBG, [(gK, .inl (cy 4, 5, .inr (.inr (.inr (.inr (yad gKd))))))], xg_rows gKd 5 (cy 2) 5 gKG, [(gU, .inl (cy 3, 5, .inr (.inr (.inr (.inr (yad gUd))))))], xg_rows gUd 5 (cy 1) 5 gUG, [(q_5, .inl (cy 1, x_1.2, .inl x_1.1))]] (0 + 30) (0 + 60) [(0, .ref g), (1, .ref q_5)] 73 [] := by
    intro z_6 e_6; subst e_6; replace hR := ybr_l hR
    refine xr_aload_n (n := 74) (j := 1) C dd_X9_isWhole_2.2.2.2.2.2.2.2.1 rfl rfl ?_
    refine xr_alen (n := 75) C 12 0 rfl 1 rfl rfl dd_X9_isWhole_2.2.2.2.2.2.2.2.2.1 rfl ?_
    refine xr_if_le (tgt := 93) (n := 78) C dd_X9_isWhole_2.2.2.2.2.2.2.2.2.2.1 rfl rfl (fun c_7 => ?_) (fun c_7 => ?_)
    · replace hR := yf_t c_7 hR
      refine xr_lconst (n := 94) (v := 0) C dd_X9_isWhole_3.2.2.2.2.2.1 rfl rfl ?_
      refine xr_lstore_n (n := 95) C [(2, .long 0), (0, .ref g), (1, .ref q_5)] dd_X9_isWhole_3.2.2.2.2.2.2.1 (by decide) rfl rfl ?_
      refine xr_iconst (n := 96) (v := 0) C dd_X9_isWhole_3.2.2.2.2.2.2.2.1 rfl rfl ?_
      refine xr_istore (n := 98) C [(4, .int 0), (2, .long 0), (0, .ref g), (1, .ref q_5)] dd_X9_isWhole_3.2.2.2.2.2.2.2.2.1 (by decide) rfl rfl ?_
      refine xr_lv (lv' := [(0, .ref g), (2, .long 0), (4, .int 0)]) [2, 1, 0] rfl ?_
      obtain ⟨b_8, hb_8, hR⟩ := yf_b hR
      have K_8 : ∀ z_8, b_8 = .inl z_8 → X p l e (yR 5 30 60) s m args below meth c D A H0 6 Q [[(g, .inr (11, [.int gth, .ref gw, .ref gB, .ref gK, .ref gU, .ref gS, .int gbe, .int gwo, .long gta, .null, .int glr, .int glc, .int gti, .int ggo, .ref gR, .int gch, .ref gD]))], [(gw, .inr (10, [.int gwr, .int gwk, .int gwc, .int gwg, .int gws, .ref gwa, .ref gwb]))], [(gwa, .inl (cy 3, gwan, .inr (.inr (.inr (.inr (yad gwad))))))], xg_rows gwad gwan (cy 1) gwak gwaG, [(gwb, .inl (cy 3, gwbn, .inr (.inr (.inr (.inr (yad gwbd))))))], xg_rows gwbd gwbn (cy 1) gwbk gwbG, [(gB, .inl (cy 4, 5, .inr (.inr (.inr (.inr (yad gBd))))))], xg_rows gBd 5 (cy 2) 5 gBG, [(gK, .inl (cy 4, 5, .inr (.inr (.inr (.inr (yad gKd))))))], xg_rows gKd 5 (cy 2) 5 gKG, [(gU, .inl (cy 3, 5, .inr (.inr (.inr (.inr (yad gUd))))))], xg_rows gUd 5 (cy 1) 5 gUG, [(q_5, .inl (cy 1, x_1.2, .inl x_1.1))]] (0 + 30) (0 + 60) [(0, .ref g), (2, .long z_8.1)] 167 [] := by
        intro z_8 e_8; subst e_8; replace hR := ybr_l hR
        refine xr_lload_n (n := 168) (j := 1) C dd_X9_isWhole_5.2.2.2.2.2.2.2.2.2.2.2.2.2.2.2.1 rfl rfl ?_
        refine xr_aload_n (n := 169) (j := 0) C dd_X9_isWhole_6.1 rfl rfl ?_
        refine xr_get (n := 172) C 0 rfl rfl 8 (by decide) in_X9 u_1245 rfl (v := .long gta) rfl dd_X9_isWhole_6.2.1 rfl ?_
        refine xr_lcmp (n := 173) C dd_X9_isWhole_6.2.2.1 rfl ?_
        refine xr_if_ne (tgt := 194) (n := 176) C dd_X9_isWhole_6.2.2.2.1 rfl rfl (fun c_9 => ?_) (fun c_9 => ?_)
        · replace hR := yf_f c_9 hR
          refine xr_iconst (n := 195) (v := 0) C dd_X9_isWhole_6.2.2.2.2.2.2.2.2.2.2.2.2.1 rfl rfl ?_
          obtain rfl := Option.some.inj hR
          refine xr_perm C 13 [0, 1, 2, 3, 4, 5, 6, 7, 8, 9, 10, 11] [12] [[(g, .inr (11, [.int gth, .ref gw, .ref gB, .ref gK, .ref gU, .ref gS, .int gbe, .int gwo, .long gta, .null, .int glr, .int glc, .int gti, .int ggo, .ref gR, .int gch, .ref gD]))], [(gw, .inr (10, [.int gwr, .int gwk, .int gwc, .int gwg, .int gws, .ref gwa, .ref gwb]))], [(gwa, .inl (cy 3, gwan, .inr (.inr (.inr (.inr (yad gwad))))))], xg_rows gwad gwan (cy 1) gwak gwaG, [(gwb, .inl (cy 3, gwbn, .inr (.inr (.inr (.inr (yad gwbd))))))], xg_rows gwbd gwbn (cy 1) gwbk gwbG, [(gB, .inl (cy 4, 5, .inr (.inr (.inr (.inr (yad gBd))))))], xg_rows gBd 5 (cy 2) 5 gBG, [(gK, .inl (cy 4, 5, .inr (.inr (.inr (.inr (yad gKd))))))], xg_rows gKd 5 (cy 2) 5 gKG, [(gU, .inl (cy 3, 5, .inr (.inr (.inr (.inr (yad gUd))))))], xg_rows gUd 5 (cy 1) 5 gUG] rfl (by decide +kernel) rfl ?_
          exact ret 0 (by decide) ⟨rfl, rfl⟩ (Nat.le_of_ble_eq_true rfl) (Nat.le_of_ble_eq_true rfl) dd_X9_isWhole_6.2.2.2.2.2.2.2.2.2.2.2.2.2.1
        · replace hR := yf_t c_9 hR
          refine xr_aload_n (n := 177) (j := 0) C dd_X9_isWhole_6.2.2.2.2.1 rfl rfl ?_
          refine xr_get (n := 180) C 0 rfl rfl 9 (by decide) in_X9 u_1246 rfl (v := .null) rfl dd_X9_isWhole_6.2.2.2.2.2.1 rfl ?_
          refine xr_ifnullN (tgt := 190) C dd_X9_isWhole_6.2.2.2.2.2.2.1 rfl ?_
          refine xr_iconst (n := 191) (v := 1) C dd_X9_isWhole_6.2.2.2.2.2.2.2.2.2.2.1 rfl rfl ?_
          refine xr_goto (tgt := 195) C dd_X9_isWhole_6.2.2.2.2.2.2.2.2.2.2.2.1 rfl ?_
          obtain rfl := Option.some.inj hR
          refine xr_perm C 13 [0, 1, 2, 3, 4, 5, 6, 7, 8, 9, 10, 11] [12] [[(g, .inr (11, [.int gth, .ref gw, .ref gB, .ref gK, .ref gU, .ref gS, .int gbe, .int gwo, .long gta, .null, .int glr, .int glc, .int gti, .int ggo, .ref gR, .int gch, .ref gD]))], [(gw, .inr (10, [.int gwr, .int gwk, .int gwc, .int gwg, .int gws, .ref gwa, .ref gwb]))], [(gwa, .inl (cy 3, gwan, .inr (.inr (.inr (.inr (yad gwad))))))], xg_rows gwad gwan (cy 1) gwak gwaG, [(gwb, .inl (cy 3, gwbn, .inr (.inr (.inr (.inr (yad gwbd))))))], xg_rows gwbd gwbn (cy 1) gwbk gwbG, [(gB, .inl (cy 4, 5, .inr (.inr (.inr (.inr (yad gBd))))))], xg_rows gBd 5 (cy 2) 5 gBG, [(gK, .inl (cy 4, 5, .inr (.inr (.inr (.inr (yad gKd))))))], xg_rows gKd 5 (cy 2) 5 gKG, [(gU, .inl (cy 3, 5, .inr (.inr (.inr (.inr (yad gUd))))))], xg_rows gUd 5 (cy 1) 5 gUG] rfl (by decide +kernel) rfl ?_
          exact ret 1 (by decide) ⟨rfl, rfl⟩ (Nat.le_of_ble_eq_true rfl) (Nat.le_of_ble_eq_true rfl) dd_X9_isWhole_6.2.2.2.2.2.2.2.2.2.2.2.2.2.1
      refine y_loop (P := fun (s_8 : Int64 × Int32) => X p l e (yR 5 30 60) s m args below meth c D A H0 6 Q [[(g, .inr (11, [.int gth, .ref gw, .ref gB, .ref gK, .ref gU, .ref gS, .int gbe, .int gwo, .long gta, .null, .int glr, .int glc, .int gti, .int ggo, .ref gR, .int gch, .ref gD]))], [(gw, .inr (10, [.int gwr, .int gwk, .int gwc, .int gwg, .int gws, .ref gwa, .ref gwb]))], [(gwa, .inl (cy 3, gwan, .inr (.inr (.inr (.inr (yad gwad))))))], xg_rows gwad gwan (cy 1) gwak gwaG, [(gwb, .inl (cy 3, gwbn, .inr (.inr (.inr (.inr (yad gwbd))))))], xg_rows gwbd gwbn (cy 1) gwbk gwbG, [(gB, .inl (cy 4, 5, .inr (.inr (.inr (.inr (yad gBd))))))], xg_rows gBd 5 (cy 2) 5 gBG, [(gK, .inl (cy 4, 5, .inr (.inr (.inr (.inr (yad gKd))))))], xg_rows gKd 5 (cy 2) 5 gKG, [(gU, .inl (cy 3, 5, .inr (.inr (.inr (.inr (yad gUd))))))], xg_rows gUd 5 (cy 1) 5 gUG, [(q_5, .inl (cy 1, x_1.2, .inl x_1.1))]] (0 + 30) (0 + 60) [(0, .ref g), (2, .long s_8.1), (4, .int s_8.2)] 98 []) ?_ _ (0, 0) hb_8
      intro s_8 o_8 ho_8 hk_8 hx_8
      refine xr_iload (n := 100) (j := 2) C dd_X9_isWhole_3.2.2.2.2.2.2.2.2.2.1 rfl rfl ?_
      refine xr_iconst (n := 101) (v := 5) C dd_X9_isWhole_3.2.2.2.2.2.2.2.2.2.2.1 rfl rfl ?_
      refine xr_icmp_ge (tgt := 167) (n := 104) C dd_X9_isWhole_3.2.2.2.2.2.2.2.2.2.2.2.1 rfl rfl (fun c_10 => ?_) (fun c_10 => ?_)
      · replace ho_8 := yf_t c_10 ho_8
        refine xr_lv (lv' := [(0, .ref g), (2, .long s_8.1)]) [0, 1] rfl ?_
        have e_11 := hx_8 _ (Option.some.inj ho_8).symm
        exact K_8 (s_8.1, s_8.2) e_11.symm
      · replace ho_8 := yf_f c_10 ho_8
        refine xr_iconst (n := 105) (v := 0) C dd_X9_isWhole_3.2.2.2.2.2.2.2.2.2.2.2.2.1 rfl rfl ?_
        refine xr_istore (n := 107) C [(5, .int 0), (0, .ref g), (2, .long s_8.1), (4, .int s_8.2)] dd_X9_isWhole_3.2.2.2.2.2.2.2.2.2.2.2.2.2.1 (by decide) rfl rfl ?_
        refine xr_lv (lv' := [(0, .ref g), (2, .long s_8.1), (4, .int s_8.2), (5, .int 0)]) [1, 2, 3, 0] rfl ?_
        obtain ⟨b_12, hb_12, ho_8⟩ := yf_b ho_8
        have K_12 : ∀ z_12, b_12 = .inl z_12 → X p l e (yR 5 30 60) s m args below meth c D A H0 6 Q [[(g, .inr (11, [.int gth, .ref gw, .ref gB, .ref gK, .ref gU, .ref gS, .int gbe, .int gwo, .long gta, .null, .int glr, .int glc, .int gti, .int ggo, .ref gR, .int gch, .ref gD]))], [(gw, .inr (10, [.int gwr, .int gwk, .int gwc, .int gwg, .int gws, .ref gwa, .ref gwb]))], [(gwa, .inl (cy 3, gwan, .inr (.inr (.inr (.inr (yad gwad))))))], xg_rows gwad gwan (cy 1) gwak gwaG, [(gwb, .inl (cy 3, gwbn, .inr (.inr (.inr (.inr (yad gwbd))))))], xg_rows gwbd gwbn (cy 1) gwbk gwbG, [(gB, .inl (cy 4, 5, .inr (.inr (.inr (.inr (yad gBd))))))], xg_rows gBd 5 (cy 2) 5 gBG, [(gK, .inl (cy 4, 5, .inr (.inr (.inr (.inr (yad gKd))))))], xg_rows gKd 5 (cy 2) 5 gKG, [(gU, .inl (cy 3, 5, .inr (.inr (.inr (.inr (yad gUd))))))], xg_rows gUd 5 (cy 1) 5 gUG, [(q_5, .inl (cy 1, x_1.2, .inl x_1.1))]] (0 + 30) (0 + 60) [(0, .ref g), (2, .long z_12.1), (4, .int s_8.2)] 161 [] := by
          intro z_12 e_12; subst e_12; replace ho_8 := ybr_l ho_8
          refine xr_iinc (j := 2) (v := s_8.2 + 1) (n := 164) C [(4, .int (s_8.2 + 1)), (0, .ref g), (2, .long z_12.1)] dd_X9_isWhole_5.2.2.2.2.2.2.2.2.2.2.2.2.2.1 rfl rfl (by decide) rfl rfl ?_
          refine xr_goto (tgt := 98) C dd_X9_isWhole_5.2.2.2.2.2.2.2.2.2.2.2.2.2.2.1 rfl ?_
          refine xr_lv (lv' := [(0, .ref g), (2, .long z_12.1), (4, .int (s_8.2 + 1))]) [1, 2, 0] rfl ?_
          exact hk_8 (z_12.1, s_8.2 + 1) (Option.some.inj ho_8).symm
        refine y_loop (P := fun (s_12 : Int64 × Int32) => X p l e (yR 5 30 60) s m args below meth c D A H0 6 Q [[(g, .inr (11, [.int gth, .ref gw, .ref gB, .ref gK, .ref gU, .ref gS, .int gbe, .int gwo, .long gta, .null, .int glr, .int glc, .int gti, .int ggo, .ref gR, .int gch, .ref gD]))], [(gw, .inr (10, [.int gwr, .int gwk, .int gwc, .int gwg, .int gws, .ref gwa, .ref gwb]))], [(gwa, .inl (cy 3, gwan, .inr (.inr (.inr (.inr (yad gwad))))))], xg_rows gwad gwan (cy 1) gwak gwaG, [(gwb, .inl (cy 3, gwbn, .inr (.inr (.inr (.inr (yad gwbd))))))], xg_rows gwbd gwbn (cy 1) gwbk gwbG, [(gB, .inl (cy 4, 5, .inr (.inr (.inr (.inr (yad gBd))))))], xg_rows gBd 5 (cy 2) 5 gBG, [(gK, .inl (cy 4, 5, .inr (.inr (.inr (.inr (yad gKd))))))], xg_rows gKd 5 (cy 2) 5 gKG, [(gU, .inl (cy 3, 5, .inr (.inr (.inr (.inr (yad gUd))))))], xg_rows gUd 5 (cy 1) 5 gUG, [(q_5, .inl (cy 1, x_1.2, .inl x_1.1))]] (0 + 30) (0 + 60) [(0, .ref g), (2, .long s_12.1), (4, .int s_8.2), (5, .int s_12.2)] 107 []) ?_ _ (s_8.1, 0) hb_12
        intro s_12 o_12 ho_12 hk_12 hx_12
        refine xr_iload (n := 109) (j := 3) C dd_X9_isWhole_3.2.2.2.2.2.2.2.2.2.2.2.2.2.2.1 rfl rfl ?_
        refine xr_iconst (n := 110) (v := 5) C dd_X9_isWhole_3.2.2.2.2.2.2.2.2.2.2.2.2.2.2.2.1 rfl rfl ?_
        refine xr_icmp_ge (tgt := 161) (n := 113) C dd_X9_isWhole_4.1 rfl rfl (fun c_13 => ?_) (fun c_13 => ?_)
        · replace ho_12 := yf_t c_13 ho_12
          refine xr_lv (lv' := [(0, .ref g), (2, .long s_12.1), (4, .int s_8.2)]) [0, 1, 2] rfl ?_
          have e_14 := hx_12 _ (Option.some.inj ho_12).symm
          exact K_12 (s_12.1, s_12.2) e_14.symm
        · replace ho_12 := yf_f c_13 ho_12
          refine xr_lload_n (n := 114) (j := 1) C dd_X9_isWhole_4.2.1 rfl rfl ?_
          refine xr_aload_n (n := 115) (j := 0) C dd_X9_isWhole_4.2.2.1 rfl rfl ?_
          refine xr_get (n := 118) C 0 rfl rfl 4 (by decide) in_X9 u_1241 rfl (v := .ref gU) rfl dd_X9_isWhole_4.2.2.2.1 rfl ?_
          refine xr_iload (n := 120) (j := 2) C dd_X9_isWhole_4.2.2.2.2.1 rfl rfl ?_
          obtain ⟨g_15, ho_12⟩ := yf_g ho_12
          refine xr_aald (n := 121) C 10 0 rfl 3 rfl rfl g_15 rfl dd_X9_isWhole_4.2.2.2.2.2.1 rfl ?_
          refine xr_iload (n := 123) (j := 3) C dd_X9_isWhole_4.2.2.2.2.2.2.1 rfl rfl ?_
          obtain ⟨g_16, ho_12⟩ := yf_g ho_12
          refine xr_ialdg (n := 124) C 11 rfl s_8.2.toNatClampNeg (ylt g_15) g_16 dd_X9_isWhole_4.2.2.2.2.2.2.2.1 rfl ?_
          refine xr_i2l (n := 125) C dd_X9_isWhole_4.2.2.2.2.2.2.2.2.1 rfl ?_
          refine xr_ladd (n := 126) C dd_X9_isWhole_4.2.2.2.2.2.2.2.2.2.1 rfl ?_
          obtain ⟨y_17, ey_17, ho_12⟩ := yf_l ho_12
          refine xr_topL ey_17 ?_
          refine xr_lstore_n (n := 127) C [(2, .long y_17), (0, .ref g), (4, .int s_8.2), (5, .int s_12.2)] dd_X9_isWhole_4.2.2.2.2.2.2.2.2.2.2.1 (by decide) rfl rfl ?_
          refine xr_aload_n (n := 128) (j := 1) C dd_X9_isWhole_4.2.2.2.2.2.2.2.2.2.2.2.1 rfl rfl ?_
          refine xr_get (n := 131) C 0 rfl rfl 3 (by decide) in_X9 u_1240 rfl (v := .ref gK) rfl dd_X9_isWhole_4.2.2.2.2.2.2.2.2.2.2.2.2.1 rfl ?_
          refine xr_iload (n := 133) (j := 2) C dd_X9_isWhole_4.2.2.2.2.2.2.2.2.2.2.2.2.2.1 rfl rfl ?_
          obtain ⟨g_18, ho_12⟩ := yf_g ho_12
          refine xr_aald (n := 134) C 8 0 rfl 4 rfl rfl g_18 rfl dd_X9_isWhole_4.2.2.2.2.2.2.2.2.2.2.2.2.2.2.1 rfl ?_
          refine xr_iload (n := 136) (j := 3) C dd_X9_isWhole_4.2.2.2.2.2.2.2.2.2.2.2.2.2.2.2.1 rfl rfl ?_
          obtain ⟨g_19, ho_12⟩ := yf_g ho_12
          refine xr_zaldg (n := 137) C 9 rfl s_8.2.toNatClampNeg (ylt g_18) g_19 dd_X9_isWhole_5.1 rfl ?_
          refine xr_if_eq (tgt := 155) (n := 140) C dd_X9_isWhole_5.2.1 rfl rfl (fun c_20 => ?_) (fun c_20 => ?_)
          · replace ho_12 := yf_t c_20 ho_12
            refine xr_iinc (j := 3) (v := s_12.2 + 1) (n := 158) C [(5, .int (s_12.2 + 1)), (2, .long y_17), (0, .ref g), (4, .int s_8.2)] dd_X9_isWhole_5.2.2.2.2.2.2.2.2.2.2.2.1 rfl rfl (by decide) rfl rfl ?_
            refine xr_goto (tgt := 107) C dd_X9_isWhole_5.2.2.2.2.2.2.2.2.2.2.2.2.1 rfl ?_
            refine xr_lv (lv' := [(0, .ref g), (2, .long y_17), (4, .int s_8.2), (5, .int (s_12.2 + 1))]) [2, 1, 3, 0] rfl ?_
            exact hk_12 (y_17, s_12.2 + 1) (Option.some.inj ho_12).symm
          · replace ho_12 := yf_f c_20 ho_12
            refine xr_aload_n (n := 141) (j := 1) C dd_X9_isWhole_5.2.2.1 rfl rfl ?_
            refine xr_get (n := 144) C 0 rfl rfl 2 (by decide) in_X9 u_1239 rfl (v := .ref gB) rfl dd_X9_isWhole_5.2.2.2.1 rfl ?_
            refine xr_iload (n := 146) (j := 2) C dd_X9_isWhole_5.2.2.2.2.1 rfl rfl ?_
            obtain ⟨g_21, ho_12⟩ := yf_g ho_12
            refine xr_aald (n := 147) C 6 0 rfl 4 rfl rfl g_21 rfl dd_X9_isWhole_5.2.2.2.2.2.1 rfl ?_
            refine xr_iload (n := 149) (j := 3) C dd_X9_isWhole_5.2.2.2.2.2.2.1 rfl rfl ?_
            obtain ⟨g_22, ho_12⟩ := yf_g ho_12
            refine xr_zaldg (n := 150) C 7 rfl s_8.2.toNatClampNeg (ylt g_21) g_22 dd_X9_isWhole_5.2.2.2.2.2.2.2.1 rfl ?_
            refine xr_if_ne (tgt := 155) (n := 153) C dd_X9_isWhole_5.2.2.2.2.2.2.2.2.1 rfl rfl (fun c_23 => ?_) (fun c_23 => ?_)
            · replace ho_12 := yf_f c_23 ho_12
              refine xr_iinc (j := 3) (v := s_12.2 + 1) (n := 158) C [(5, .int (s_12.2 + 1)), (2, .long y_17), (0, .ref g), (4, .int s_8.2)] dd_X9_isWhole_5.2.2.2.2.2.2.2.2.2.2.2.1 rfl rfl (by decide) rfl rfl ?_
              refine xr_goto (tgt := 107) C dd_X9_isWhole_5.2.2.2.2.2.2.2.2.2.2.2.2.1 rfl ?_
              refine xr_lv (lv' := [(0, .ref g), (2, .long y_17), (4, .int s_8.2), (5, .int (s_12.2 + 1))]) [2, 1, 3, 0] rfl ?_
              exact hk_12 (y_17, s_12.2 + 1) (Option.some.inj ho_12).symm
            · replace ho_12 := yf_t c_23 ho_12
              refine xr_iconst (n := 154) (v := 0) C dd_X9_isWhole_5.2.2.2.2.2.2.2.2.2.1 rfl rfl ?_
              have e_24 := hx_12 _ (Option.some.inj ho_12).symm
              subst e_24
              replace ho_8 := ybr_r ho_8
              have e_25 := hx_8 _ (Option.some.inj ho_8).symm
              subst e_25
              replace hR := ybr_r hR
              obtain rfl := Option.some.inj hR
              refine xr_perm C 13 [0, 1, 2, 3, 4, 5, 6, 7, 8, 9, 10, 11] [12] [[(g, .inr (11, [.int gth, .ref gw, .ref gB, .ref gK, .ref gU, .ref gS, .int gbe, .int gwo, .long gta, .null, .int glr, .int glc, .int gti, .int ggo, .ref gR, .int gch, .ref gD]))], [(gw, .inr (10, [.int gwr, .int gwk, .int gwc, .int gwg, .int gws, .ref gwa, .ref gwb]))], [(gwa, .inl (cy 3, gwan, .inr (.inr (.inr (.inr (yad gwad))))))], xg_rows gwad gwan (cy 1) gwak gwaG, [(gwb, .inl (cy 3, gwbn, .inr (.inr (.inr (.inr (yad gwbd))))))], xg_rows gwbd gwbn (cy 1) gwbk gwbG, [(gB, .inl (cy 4, 5, .inr (.inr (.inr (.inr (yad gBd))))))], xg_rows gBd 5 (cy 2) 5 gBG, [(gK, .inl (cy 4, 5, .inr (.inr (.inr (.inr (yad gKd))))))], xg_rows gKd 5 (cy 2) 5 gKG, [(gU, .inl (cy 3, 5, .inr (.inr (.inr (.inr (yad gUd))))))], xg_rows gUd 5 (cy 1) 5 gUG] rfl (by decide +kernel) rfl ?_
              exact ret 0 (by decide) ⟨rfl, rfl⟩ (Nat.le_of_ble_eq_true rfl) (Nat.le_of_ble_eq_true rfl) dd_X9_isWhole_5.2.2.2.2.2.2.2.2.2.2.1
    · replace hR := yf_f c_7 hR
      refine xr_aload_n (n := 79) (j := 0) C dd_X9_isWhole_2.2.2.2.2.2.2.2.2.2.2.1 rfl rfl ?_
      refine xr_aload_n (n := 80) (j := 1) C dd_X9_isWhole_2.2.2.2.2.2.2.2.2.2.2.2.1 rfl rfl ?_
      refine xr_iconst (n := 81) (v := 0) C dd_X9_isWhole_2.2.2.2.2.2.2.2.2.2.2.2.2.1 rfl rfl ?_
      obtain ⟨g_26, hR⟩ := yf_g hR
      refine xr_iald (n := 82) C 12 0 rfl rfl g_26 dd_X9_isWhole_2.2.2.2.2.2.2.2.2.2.2.2.2.2.1 rfl ?_
      refine xr_aload_n (n := 83) (j := 1) C dd_X9_isWhole_2.2.2.2.2.2.2.2.2.2.2.2.2.2.2.1 rfl rfl ?_
      refine xr_iconst (n := 84) (v := 1) C dd_X9_isWhole_2.2.2.2.2.2.2.2.2.2.2.2.2.2.2.2.1 rfl rfl ?_
      obtain ⟨g_27, hR⟩ := yf_g hR
      refine xr_iald (n := 85) C 12 0 rfl rfl g_27 dd_X9_isWhole_3.1 rfl ?_
      obtain ⟨x_28, hx_28, hR⟩ := yf_b hR
      refine xr_callVp (n := 88) (As := [.int (x_1.1 (0 : Int32).toNatClampNeg), .int (x_1.1 (1 : Int32).toNatClampNeg)]) (rest := []) C (kX9_crosses_i l D cy (g := g) (gth := gth) (gw := gw) (gB := gB) (gK := gK) (gU := gU) (gS := gS) (gbe := gbe) (gwo := gwo) (gta := gta) (glr := glr) (glc := glc) (gti := gti) (ggo := ggo) (gR := gR) (gch := gch) (gD := gD) (gKd := gKd) (gKG := gKG) (i1 := x_1.1 (0 : Int32).toNatClampNeg) (i2 := x_1.1 (1 : Int32).toNatClampNeg) hx_28) mX9_crosses u_1373 u_1375 u_33 0 rfl rfl 13 [0, 8, 9] [1, 2, 3, 4, 5, 6, 7, 10, 11, 12] rfl (by decide +kernel) rfl rfl rfl rfl (Nat.le_of_ble_eq_true rfl) (Nat.le_of_ble_eq_true rfl) (Nat.le_of_ble_eq_true rfl) (Nat.le_of_ble_eq_true rfl) (Nat.le_of_ble_eq_true rfl) dd_X9_isWhole_3.2.1 rfl (fun _ _ hp => hp.2) (fun v_29 hp_31 => ?_)
      obtain ⟨rfl, -⟩ := hp_31
      refine xr_st (st' := [.int x_28]) rfl ?_
      refine xr_if_eq (tgt := 93) (n := 91) C dd_X9_isWhole_3.2.2.1 rfl rfl (fun c_32 => ?_) (fun c_32 => ?_)
      · replace hR := yf_t c_32 hR
        refine xr_lconst (n := 94) (v := 0) C dd_X9_isWhole_3.2.2.2.2.2.1 rfl rfl ?_
        refine xr_lstore_n (n := 95) C [(2, .long 0), (0, .ref g), (1, .ref q_5)] dd_X9_isWhole_3.2.2.2.2.2.2.1 (by decide) rfl rfl ?_
        refine xr_iconst (n := 96) (v := 0) C dd_X9_isWhole_3.2.2.2.2.2.2.2.1 rfl rfl ?_
        refine xr_istore (n := 98) C [(4, .int 0), (2, .long 0), (0, .ref g), (1, .ref q_5)] dd_X9_isWhole_3.2.2.2.2.2.2.2.2.1 (by decide) rfl rfl ?_
        refine xr_lv (lv' := [(0, .ref g), (2, .long 0), (4, .int 0)]) [2, 1, 0] rfl ?_
        obtain ⟨b_33, hb_33, hR⟩ := yf_b hR
        have K_33 : ∀ z_33, b_33 = .inl z_33 → X p l e (yR 5 30 60) s m args below meth c D A H0 6 Q [[(g, .inr (11, [.int gth, .ref gw, .ref gB, .ref gK, .ref gU, .ref gS, .int gbe, .int gwo, .long gta, .null, .int glr, .int glc, .int gti, .int ggo, .ref gR, .int gch, .ref gD]))], [(gw, .inr (10, [.int gwr, .int gwk, .int gwc, .int gwg, .int gws, .ref gwa, .ref gwb]))], [(gwa, .inl (cy 3, gwan, .inr (.inr (.inr (.inr (yad gwad))))))], xg_rows gwad gwan (cy 1) gwak gwaG, [(gwb, .inl (cy 3, gwbn, .inr (.inr (.inr (.inr (yad gwbd))))))], xg_rows gwbd gwbn (cy 1) gwbk gwbG, [(gB, .inl (cy 4, 5, .inr (.inr (.inr (.inr (yad gBd))))))], xg_rows gBd 5 (cy 2) 5 gBG, [(gK, .inl (cy 4, 5, .inr (.inr (.inr (.inr (yad gKd))))))], xg_rows gKd 5 (cy 2) 5 gKG, [(gU, .inl (cy 3, 5, .inr (.inr (.inr (.inr (yad gUd))))))], xg_rows gUd 5 (cy 1) 5 gUG, [(q_5, .inl (cy 1, x_1.2, .inl x_1.1))]] (0 + 30) (0 + 60) [(0, .ref g), (2, .long z_33.1)] 167 [] := by
          intro z_33 e_33; subst e_33; replace hR := ybr_l hR
          refine xr_lload_n (n := 168) (j := 1) C dd_X9_isWhole_5.2.2.2.2.2.2.2.2.2.2.2.2.2.2.2.1 rfl rfl ?_
          refine xr_aload_n (n := 169) (j := 0) C dd_X9_isWhole_6.1 rfl rfl ?_
          refine xr_get (n := 172) C 0 rfl rfl 8 (by decide) in_X9 u_1245 rfl (v := .long gta) rfl dd_X9_isWhole_6.2.1 rfl ?_
          refine xr_lcmp (n := 173) C dd_X9_isWhole_6.2.2.1 rfl ?_
          refine xr_if_ne (tgt := 194) (n := 176) C dd_X9_isWhole_6.2.2.2.1 rfl rfl (fun c_34 => ?_) (fun c_34 => ?_)
          · replace hR := yf_f c_34 hR
            refine xr_iconst (n := 195) (v := 0) C dd_X9_isWhole_6.2.2.2.2.2.2.2.2.2.2.2.2.1 rfl rfl ?_
            obtain rfl := Option.some.inj hR
            refine xr_perm C 13 [0, 1, 2, 3, 4, 5, 6, 7, 8, 9, 10, 11] [12] [[(g, .inr (11, [.int gth, .ref gw, .ref gB, .ref gK, .ref gU, .ref gS, .int gbe, .int gwo, .long gta, .null, .int glr, .int glc, .int gti, .int ggo, .ref gR, .int gch, .ref gD]))], [(gw, .inr (10, [.int gwr, .int gwk, .int gwc, .int gwg, .int gws, .ref gwa, .ref gwb]))], [(gwa, .inl (cy 3, gwan, .inr (.inr (.inr (.inr (yad gwad))))))], xg_rows gwad gwan (cy 1) gwak gwaG, [(gwb, .inl (cy 3, gwbn, .inr (.inr (.inr (.inr (yad gwbd))))))], xg_rows gwbd gwbn (cy 1) gwbk gwbG, [(gB, .inl (cy 4, 5, .inr (.inr (.inr (.inr (yad gBd))))))], xg_rows gBd 5 (cy 2) 5 gBG, [(gK, .inl (cy 4, 5, .inr (.inr (.inr (.inr (yad gKd))))))], xg_rows gKd 5 (cy 2) 5 gKG, [(gU, .inl (cy 3, 5, .inr (.inr (.inr (.inr (yad gUd))))))], xg_rows gUd 5 (cy 1) 5 gUG] rfl (by decide +kernel) rfl ?_
            exact ret 0 (by decide) ⟨rfl, rfl⟩ (Nat.le_of_ble_eq_true rfl) (Nat.le_of_ble_eq_true rfl) dd_X9_isWhole_6.2.2.2.2.2.2.2.2.2.2.2.2.2.1
          · replace hR := yf_t c_34 hR
            refine xr_aload_n (n := 177) (j := 0) C dd_X9_isWhole_6.2.2.2.2.1 rfl rfl ?_
            refine xr_get (n := 180) C 0 rfl rfl 9 (by decide) in_X9 u_1246 rfl (v := .null) rfl dd_X9_isWhole_6.2.2.2.2.2.1 rfl ?_
            refine xr_ifnullN (tgt := 190) C dd_X9_isWhole_6.2.2.2.2.2.2.1 rfl ?_
            refine xr_iconst (n := 191) (v := 1) C dd_X9_isWhole_6.2.2.2.2.2.2.2.2.2.2.1 rfl rfl ?_
            refine xr_goto (tgt := 195) C dd_X9_isWhole_6.2.2.2.2.2.2.2.2.2.2.2.1 rfl ?_
            obtain rfl := Option.some.inj hR
            refine xr_perm C 13 [0, 1, 2, 3, 4, 5, 6, 7, 8, 9, 10, 11] [12] [[(g, .inr (11, [.int gth, .ref gw, .ref gB, .ref gK, .ref gU, .ref gS, .int gbe, .int gwo, .long gta, .null, .int glr, .int glc, .int gti, .int ggo, .ref gR, .int gch, .ref gD]))], [(gw, .inr (10, [.int gwr, .int gwk, .int gwc, .int gwg, .int gws, .ref gwa, .ref gwb]))], [(gwa, .inl (cy 3, gwan, .inr (.inr (.inr (.inr (yad gwad))))))], xg_rows gwad gwan (cy 1) gwak gwaG, [(gwb, .inl (cy 3, gwbn, .inr (.inr (.inr (.inr (yad gwbd))))))], xg_rows gwbd gwbn (cy 1) gwbk gwbG, [(gB, .inl (cy 4, 5, .inr (.inr (.inr (.inr (yad gBd))))))], xg_rows gBd 5 (cy 2) 5 gBG, [(gK, .inl (cy 4, 5, .inr (.inr (.inr (.inr (yad gKd))))))], xg_rows gKd 5 (cy 2) 5 gKG, [(gU, .inl (cy 3, 5, .inr (.inr (.inr (.inr (yad gUd))))))], xg_rows gUd 5 (cy 1) 5 gUG] rfl (by decide +kernel) rfl ?_
            exact ret 1 (by decide) ⟨rfl, rfl⟩ (Nat.le_of_ble_eq_true rfl) (Nat.le_of_ble_eq_true rfl) dd_X9_isWhole_6.2.2.2.2.2.2.2.2.2.2.2.2.2.1
        refine y_loop (P := fun (s_33 : Int64 × Int32) => X p l e (yR 5 30 60) s m args below meth c D A H0 6 Q [[(g, .inr (11, [.int gth, .ref gw, .ref gB, .ref gK, .ref gU, .ref gS, .int gbe, .int gwo, .long gta, .null, .int glr, .int glc, .int gti, .int ggo, .ref gR, .int gch, .ref gD]))], [(gw, .inr (10, [.int gwr, .int gwk, .int gwc, .int gwg, .int gws, .ref gwa, .ref gwb]))], [(gwa, .inl (cy 3, gwan, .inr (.inr (.inr (.inr (yad gwad))))))], xg_rows gwad gwan (cy 1) gwak gwaG, [(gwb, .inl (cy 3, gwbn, .inr (.inr (.inr (.inr (yad gwbd))))))], xg_rows gwbd gwbn (cy 1) gwbk gwbG, [(gB, .inl (cy 4, 5, .inr (.inr (.inr (.inr (yad gBd))))))], xg_rows gBd 5 (cy 2) 5 gBG, [(gK, .inl (cy 4, 5, .inr (.inr (.inr (.inr (yad gKd))))))], xg_rows gKd 5 (cy 2) 5 gKG, [(gU, .inl (cy 3, 5, .inr (.inr (.inr (.inr (yad gUd))))))], xg_rows gUd 5 (cy 1) 5 gUG, [(q_5, .inl (cy 1, x_1.2, .inl x_1.1))]] (0 + 30) (0 + 60) [(0, .ref g), (2, .long s_33.1), (4, .int s_33.2)] 98 []) ?_ _ (0, 0) hb_33
        intro s_33 o_33 ho_33 hk_33 hx_33
        refine xr_iload (n := 100) (j := 2) C dd_X9_isWhole_3.2.2.2.2.2.2.2.2.2.1 rfl rfl ?_
        refine xr_iconst (n := 101) (v := 5) C dd_X9_isWhole_3.2.2.2.2.2.2.2.2.2.2.1 rfl rfl ?_
        refine xr_icmp_ge (tgt := 167) (n := 104) C dd_X9_isWhole_3.2.2.2.2.2.2.2.2.2.2.2.1 rfl rfl (fun c_35 => ?_) (fun c_35 => ?_)
        · replace ho_33 := yf_t c_35 ho_33
          refine xr_lv (lv' := [(0, .ref g), (2, .long s_33.1)]) [0, 1] rfl ?_
          have e_36 := hx_33 _ (Option.some.inj ho_33).symm
          exact K_33 (s_33.1, s_33.2) e_36.symm
        · replace ho_33 := yf_f c_35 ho_33
          refine xr_iconst (n := 105) (v := 0) C dd_X9_isWhole_3.2.2.2.2.2.2.2.2.2.2.2.2.1 rfl rfl ?_
          refine xr_istore (n := 107) C [(5, .int 0), (0, .ref g), (2, .long s_33.1), (4, .int s_33.2)] dd_X9_isWhole_3.2.2.2.2.2.2.2.2.2.2.2.2.2.1 (by decide) rfl rfl ?_
          refine xr_lv (lv' := [(0, .ref g), (2, .long s_33.1), (4, .int s_33.2), (5, .int 0)]) [1, 2, 3, 0] rfl ?_
          obtain ⟨b_37, hb_37, ho_33⟩ := yf_b ho_33
          have K_37 : ∀ z_37, b_37 = .inl z_37 → X p l e (yR 5 30 60) s m args below meth c D A H0 6 Q [[(g, .inr (11, [.int gth, .ref gw, .ref gB, .ref gK, .ref gU, .ref gS, .int gbe, .int gwo, .long gta, .null, .int glr, .int glc, .int gti, .int ggo, .ref gR, .int gch, .ref gD]))], [(gw, .inr (10, [.int gwr, .int gwk, .int gwc, .int gwg, .int gws, .ref gwa, .ref gwb]))], [(gwa, .inl (cy 3, gwan, .inr (.inr (.inr (.inr (yad gwad))))))], xg_rows gwad gwan (cy 1) gwak gwaG, [(gwb, .inl (cy 3, gwbn, .inr (.inr (.inr (.inr (yad gwbd))))))], xg_rows gwbd gwbn (cy 1) gwbk gwbG, [(gB, .inl (cy 4, 5, .inr (.inr (.inr (.inr (yad gBd))))))], xg_rows gBd 5 (cy 2) 5 gBG, [(gK, .inl (cy 4, 5, .inr (.inr (.inr (.inr (yad gKd))))))], xg_rows gKd 5 (cy 2) 5 gKG, [(gU, .inl (cy 3, 5, .inr (.inr (.inr (.inr (yad gUd))))))], xg_rows gUd 5 (cy 1) 5 gUG, [(q_5, .inl (cy 1, x_1.2, .inl x_1.1))]] (0 + 30) (0 + 60) [(0, .ref g), (2, .long z_37.1), (4, .int s_33.2)] 161 [] := by
            intro z_37 e_37; subst e_37; replace ho_33 := ybr_l ho_33
            refine xr_iinc (j := 2) (v := s_33.2 + 1) (n := 164) C [(4, .int (s_33.2 + 1)), (0, .ref g), (2, .long z_37.1)] dd_X9_isWhole_5.2.2.2.2.2.2.2.2.2.2.2.2.2.1 rfl rfl (by decide) rfl rfl ?_
            refine xr_goto (tgt := 98) C dd_X9_isWhole_5.2.2.2.2.2.2.2.2.2.2.2.2.2.2.1 rfl ?_
            refine xr_lv (lv' := [(0, .ref g), (2, .long z_37.1), (4, .int (s_33.2 + 1))]) [1, 2, 0] rfl ?_
            exact hk_33 (z_37.1, s_33.2 + 1) (Option.some.inj ho_33).symm
          refine y_loop (P := fun (s_37 : Int64 × Int32) => X p l e (yR 5 30 60) s m args below meth c D A H0 6 Q [[(g, .inr (11, [.int gth, .ref gw, .ref gB, .ref gK, .ref gU, .ref gS, .int gbe, .int gwo, .long gta, .null, .int glr, .int glc, .int gti, .int ggo, .ref gR, .int gch, .ref gD]))], [(gw, .inr (10, [.int gwr, .int gwk, .int gwc, .int gwg, .int gws, .ref gwa, .ref gwb]))], [(gwa, .inl (cy 3, gwan, .inr (.inr (.inr (.inr (yad gwad))))))], xg_rows gwad gwan (cy 1) gwak gwaG, [(gwb, .inl (cy 3, gwbn, .inr (.inr (.inr (.inr (yad gwbd))))))], xg_rows gwbd gwbn (cy 1) gwbk gwbG, [(gB, .inl (cy 4, 5, .inr (.inr (.inr (.inr (yad gBd))))))], xg_rows gBd 5 (cy 2) 5 gBG, [(gK, .inl (cy 4, 5, .inr (.inr (.inr (.inr (yad gKd))))))], xg_rows gKd 5 (cy 2) 5 gKG, [(gU, .inl (cy 3, 5, .inr (.inr (.inr (.inr (yad gUd))))))], xg_rows gUd 5 (cy 1) 5 gUG, [(q_5, .inl (cy 1, x_1.2, .inl x_1.1))]] (0 + 30) (0 + 60) [(0, .ref g), (2, .long s_37.1), (4, .int s_33.2), (5, .int s_37.2)] 107 []) ?_ _ (s_33.1, 0) hb_37
          intro s_37 o_37 ho_37 hk_37 hx_37
          refine xr_iload (n := 109) (j := 3) C dd_X9_isWhole_3.2.2.2.2.2.2.2.2.2.2.2.2.2.2.1 rfl rfl ?_
          refine xr_iconst (n := 110) (v := 5) C dd_X9_isWhole_3.2.2.2.2.2.2.2.2.2.2.2.2.2.2.2.1 rfl rfl ?_
          refine xr_icmp_ge (tgt := 161) (n := 113) C dd_X9_isWhole_4.1 rfl rfl (fun c_38 => ?_) (fun c_38 => ?_)
          · replace ho_37 := yf_t c_38 ho_37
            refine xr_lv (lv' := [(0, .ref g), (2, .long s_37.1), (4, .int s_33.2)]) [0, 1, 2] rfl ?_
            have e_39 := hx_37 _ (Option.some.inj ho_37).symm
            exact K_37 (s_37.1, s_37.2) e_39.symm
          · replace ho_37 := yf_f c_38 ho_37
            refine xr_lload_n (n := 114) (j := 1) C dd_X9_isWhole_4.2.1 rfl rfl ?_
            refine xr_aload_n (n := 115) (j := 0) C dd_X9_isWhole_4.2.2.1 rfl rfl ?_
            refine xr_get (n := 118) C 0 rfl rfl 4 (by decide) in_X9 u_1241 rfl (v := .ref gU) rfl dd_X9_isWhole_4.2.2.2.1 rfl ?_
            refine xr_iload (n := 120) (j := 2) C dd_X9_isWhole_4.2.2.2.2.1 rfl rfl ?_
            obtain ⟨g_40, ho_37⟩ := yf_g ho_37
            refine xr_aald (n := 121) C 10 0 rfl 3 rfl rfl g_40 rfl dd_X9_isWhole_4.2.2.2.2.2.1 rfl ?_
            refine xr_iload (n := 123) (j := 3) C dd_X9_isWhole_4.2.2.2.2.2.2.1 rfl rfl ?_
            obtain ⟨g_41, ho_37⟩ := yf_g ho_37
            refine xr_ialdg (n := 124) C 11 rfl s_33.2.toNatClampNeg (ylt g_40) g_41 dd_X9_isWhole_4.2.2.2.2.2.2.2.1 rfl ?_
            refine xr_i2l (n := 125) C dd_X9_isWhole_4.2.2.2.2.2.2.2.2.1 rfl ?_
            refine xr_ladd (n := 126) C dd_X9_isWhole_4.2.2.2.2.2.2.2.2.2.1 rfl ?_
            obtain ⟨y_42, ey_42, ho_37⟩ := yf_l ho_37
            refine xr_topL ey_42 ?_
            refine xr_lstore_n (n := 127) C [(2, .long y_42), (0, .ref g), (4, .int s_33.2), (5, .int s_37.2)] dd_X9_isWhole_4.2.2.2.2.2.2.2.2.2.2.1 (by decide) rfl rfl ?_
            refine xr_aload_n (n := 128) (j := 1) C dd_X9_isWhole_4.2.2.2.2.2.2.2.2.2.2.2.1 rfl rfl ?_
            refine xr_get (n := 131) C 0 rfl rfl 3 (by decide) in_X9 u_1240 rfl (v := .ref gK) rfl dd_X9_isWhole_4.2.2.2.2.2.2.2.2.2.2.2.2.1 rfl ?_
            refine xr_iload (n := 133) (j := 2) C dd_X9_isWhole_4.2.2.2.2.2.2.2.2.2.2.2.2.2.1 rfl rfl ?_
            obtain ⟨g_43, ho_37⟩ := yf_g ho_37
            refine xr_aald (n := 134) C 8 0 rfl 4 rfl rfl g_43 rfl dd_X9_isWhole_4.2.2.2.2.2.2.2.2.2.2.2.2.2.2.1 rfl ?_
            refine xr_iload (n := 136) (j := 3) C dd_X9_isWhole_4.2.2.2.2.2.2.2.2.2.2.2.2.2.2.2.1 rfl rfl ?_
            obtain ⟨g_44, ho_37⟩ := yf_g ho_37
            refine xr_zaldg (n := 137) C 9 rfl s_33.2.toNatClampNeg (ylt g_43) g_44 dd_X9_isWhole_5.1 rfl ?_
            refine xr_if_eq (tgt := 155) (n := 140) C dd_X9_isWhole_5.2.1 rfl rfl (fun c_45 => ?_) (fun c_45 => ?_)
            · replace ho_37 := yf_t c_45 ho_37
              refine xr_iinc (j := 3) (v := s_37.2 + 1) (n := 158) C [(5, .int (s_37.2 + 1)), (2, .long y_42), (0, .ref g), (4, .int s_33.2)] dd_X9_isWhole_5.2.2.2.2.2.2.2.2.2.2.2.1 rfl rfl (by decide) rfl rfl ?_
              refine xr_goto (tgt := 107) C dd_X9_isWhole_5.2.2.2.2.2.2.2.2.2.2.2.2.1 rfl ?_
              refine xr_lv (lv' := [(0, .ref g), (2, .long y_42), (4, .int s_33.2), (5, .int (s_37.2 + 1))]) [2, 1, 3, 0] rfl ?_
              exact hk_37 (y_42, s_37.2 + 1) (Option.some.inj ho_37).symm
            · replace ho_37 := yf_f c_45 ho_37
              refine xr_aload_n (n := 141) (j := 1) C dd_X9_isWhole_5.2.2.1 rfl rfl ?_
              refine xr_get (n := 144) C 0 rfl rfl 2 (by decide) in_X9 u_1239 rfl (v := .ref gB) rfl dd_X9_isWhole_5.2.2.2.1 rfl ?_
              refine xr_iload (n := 146) (j := 2) C dd_X9_isWhole_5.2.2.2.2.1 rfl rfl ?_
              obtain ⟨g_46, ho_37⟩ := yf_g ho_37
              refine xr_aald (n := 147) C 6 0 rfl 4 rfl rfl g_46 rfl dd_X9_isWhole_5.2.2.2.2.2.1 rfl ?_
              refine xr_iload (n := 149) (j := 3) C dd_X9_isWhole_5.2.2.2.2.2.2.1 rfl rfl ?_
              obtain ⟨g_47, ho_37⟩ := yf_g ho_37
              refine xr_zaldg (n := 150) C 7 rfl s_33.2.toNatClampNeg (ylt g_46) g_47 dd_X9_isWhole_5.2.2.2.2.2.2.2.1 rfl ?_
              refine xr_if_ne (tgt := 155) (n := 153) C dd_X9_isWhole_5.2.2.2.2.2.2.2.2.1 rfl rfl (fun c_48 => ?_) (fun c_48 => ?_)
              · replace ho_37 := yf_f c_48 ho_37
                refine xr_iinc (j := 3) (v := s_37.2 + 1) (n := 158) C [(5, .int (s_37.2 + 1)), (2, .long y_42), (0, .ref g), (4, .int s_33.2)] dd_X9_isWhole_5.2.2.2.2.2.2.2.2.2.2.2.1 rfl rfl (by decide) rfl rfl ?_
                refine xr_goto (tgt := 107) C dd_X9_isWhole_5.2.2.2.2.2.2.2.2.2.2.2.2.1 rfl ?_
                refine xr_lv (lv' := [(0, .ref g), (2, .long y_42), (4, .int s_33.2), (5, .int (s_37.2 + 1))]) [2, 1, 3, 0] rfl ?_
                exact hk_37 (y_42, s_37.2 + 1) (Option.some.inj ho_37).symm
              · replace ho_37 := yf_t c_48 ho_37
                refine xr_iconst (n := 154) (v := 0) C dd_X9_isWhole_5.2.2.2.2.2.2.2.2.2.1 rfl rfl ?_
                have e_49 := hx_37 _ (Option.some.inj ho_37).symm
                subst e_49
                replace ho_33 := ybr_r ho_33
                have e_50 := hx_33 _ (Option.some.inj ho_33).symm
                subst e_50
                replace hR := ybr_r hR
                obtain rfl := Option.some.inj hR
                refine xr_perm C 13 [0, 1, 2, 3, 4, 5, 6, 7, 8, 9, 10, 11] [12] [[(g, .inr (11, [.int gth, .ref gw, .ref gB, .ref gK, .ref gU, .ref gS, .int gbe, .int gwo, .long gta, .null, .int glr, .int glc, .int gti, .int ggo, .ref gR, .int gch, .ref gD]))], [(gw, .inr (10, [.int gwr, .int gwk, .int gwc, .int gwg, .int gws, .ref gwa, .ref gwb]))], [(gwa, .inl (cy 3, gwan, .inr (.inr (.inr (.inr (yad gwad))))))], xg_rows gwad gwan (cy 1) gwak gwaG, [(gwb, .inl (cy 3, gwbn, .inr (.inr (.inr (.inr (yad gwbd))))))], xg_rows gwbd gwbn (cy 1) gwbk gwbG, [(gB, .inl (cy 4, 5, .inr (.inr (.inr (.inr (yad gBd))))))], xg_rows gBd 5 (cy 2) 5 gBG, [(gK, .inl (cy 4, 5, .inr (.inr (.inr (.inr (yad gKd))))))], xg_rows gKd 5 (cy 2) 5 gKG, [(gU, .inl (cy 3, 5, .inr (.inr (.inr (.inr (yad gUd))))))], xg_rows gUd 5 (cy 1) 5 gUG] rfl (by decide +kernel) rfl ?_
                exact ret 0 (by decide) ⟨rfl, rfl⟩ (Nat.le_of_ble_eq_true rfl) (Nat.le_of_ble_eq_true rfl) dd_X9_isWhole_5.2.2.2.2.2.2.2.2.2.2.1
      · replace hR := yf_f c_32 hR
        refine xr_iconst (n := 92) (v := 0) C dd_X9_isWhole_3.2.2.2.1 rfl rfl ?_
        obtain rfl := Option.some.inj hR
        refine xr_perm C 13 [0, 1, 2, 3, 4, 5, 6, 7, 8, 9, 10, 11] [12] [[(g, .inr (11, [.int gth, .ref gw, .ref gB, .ref gK, .ref gU, .ref gS, .int gbe, .int gwo, .long gta, .null, .int glr, .int glc, .int gti, .int ggo, .ref gR, .int gch, .ref gD]))], [(gw, .inr (10, [.int gwr, .int gwk, .int gwc, .int gwg, .int gws, .ref gwa, .ref gwb]))], [(gwa, .inl (cy 3, gwan, .inr (.inr (.inr (.inr (yad gwad))))))], xg_rows gwad gwan (cy 1) gwak gwaG, [(gwb, .inl (cy 3, gwbn, .inr (.inr (.inr (.inr (yad gwbd))))))], xg_rows gwbd gwbn (cy 1) gwbk gwbG, [(gB, .inl (cy 4, 5, .inr (.inr (.inr (.inr (yad gBd))))))], xg_rows gBd 5 (cy 2) 5 gBG, [(gK, .inl (cy 4, 5, .inr (.inr (.inr (.inr (yad gKd))))))], xg_rows gKd 5 (cy 2) 5 gKG, [(gU, .inl (cy 3, 5, .inr (.inr (.inr (.inr (yad gUd))))))], xg_rows gUd 5 (cy 1) 5 gUG] rfl (by decide +kernel) rfl ?_
        exact ret 0 (by decide) ⟨rfl, rfl⟩ (Nat.le_of_ble_eq_true rfl) (Nat.le_of_ble_eq_true rfl) dd_X9_isWhole_3.2.2.2.2.1
  refine y_loop (P := fun (s_6 : Int32) => X p l e (yR 5 30 60) s m args below meth c D A H0 6 Q [[(g, .inr (11, [.int gth, .ref gw, .ref gB, .ref gK, .ref gU, .ref gS, .int gbe, .int gwo, .long gta, .null, .int glr, .int glc, .int gti, .int ggo, .ref gR, .int gch, .ref gD]))], [(gw, .inr (10, [.int gwr, .int gwk, .int gwc, .int gwg, .int gws, .ref gwa, .ref gwb]))], [(gwa, .inl (cy 3, gwan, .inr (.inr (.inr (.inr (yad gwad))))))], xg_rows gwad gwan (cy 1) gwak gwaG, [(gwb, .inl (cy 3, gwbn, .inr (.inr (.inr (.inr (yad gwbd))))))], xg_rows gwbd gwbn (cy 1) gwbk gwbG, [(gB, .inl (cy 4, 5, .inr (.inr (.inr (.inr (yad gBd))))))], xg_rows gBd 5 (cy 2) 5 gBG, [(gK, .inl (cy 4, 5, .inr (.inr (.inr (.inr (yad gKd))))))], xg_rows gKd 5 (cy 2) 5 gKG, [(gU, .inl (cy 3, 5, .inr (.inr (.inr (.inr (yad gUd))))))], xg_rows gUd 5 (cy 1) 5 gUG, [(q_5, .inl (cy 1, x_1.2, .inl x_1.1))]] (0 + 30) (0 + 60) [(0, .ref g), (1, .ref q_5), (2, .int s_6)] 7 []) ?_ _ 1 hb_6
  intro s_6 o_6 ho_6 hk_6 hx_6
  refine xr_iload_n (n := 8) (j := 2) C dd_X9_isWhole_0.2.2.2.2.2.1 rfl rfl ?_
  refine xr_bipush (n := 10) (v := 32) C dd_X9_isWhole_0.2.2.2.2.2.2.1 rfl rfl ?_
  refine xr_icmp_ge (tgt := 73) (n := 13) C dd_X9_isWhole_0.2.2.2.2.2.2.2.1 rfl rfl (fun c_51 => ?_) (fun c_51 => ?_)
  · replace ho_6 := yf_t c_51 ho_6
    refine xr_lv (lv' := [(0, .ref g), (1, .ref q_5)]) [0, 1] rfl ?_
    have e_52 := hx_6 _ (Option.some.inj ho_6).symm
    exact K_6 s_6 e_52.symm
  · replace ho_6 := yf_f c_51 ho_6
    refine xr_aload_n (n := 14) (j := 1) C dd_X9_isWhole_0.2.2.2.2.2.2.2.2.1 rfl rfl ?_
    refine xr_alen (n := 15) C 12 0 rfl 1 rfl rfl dd_X9_isWhole_0.2.2.2.2.2.2.2.2.2.1 rfl ?_
    refine xr_if_le (tgt := 73) (n := 18) C dd_X9_isWhole_0.2.2.2.2.2.2.2.2.2.2.1 rfl rfl (fun c_53 => ?_) (fun c_53 => ?_)
    · replace ho_6 := yf_t c_53 ho_6
      refine xr_lv (lv' := [(0, .ref g), (1, .ref q_5)]) [0, 1] rfl ?_
      have e_54 := hx_6 _ (Option.some.inj ho_6).symm
      exact K_6 s_6 e_54.symm
    · replace ho_6 := yf_f c_53 ho_6
      refine xr_iconst (n := 19) (v := 1) C dd_X9_isWhole_0.2.2.2.2.2.2.2.2.2.2.2.1 rfl rfl ?_
      refine xr_istore_n (n := 20) C [(3, .int 1), (0, .ref g), (1, .ref q_5), (2, .int s_6)] dd_X9_isWhole_0.2.2.2.2.2.2.2.2.2.2.2.2.1 (by decide) rfl rfl ?_
      refine xr_lv (lv' := [(0, .ref g), (1, .ref q_5), (2, .int s_6), (3, .int 1)]) [1, 2, 3, 0] rfl ?_
      obtain ⟨b_55, hb_55, ho_6⟩ := yf_b ho_6
      have K_55 : ∀ z_55, b_55 = .inl z_55 → X p l e (yR 5 30 60) s m args below meth c D A H0 6 Q [[(g, .inr (11, [.int gth, .ref gw, .ref gB, .ref gK, .ref gU, .ref gS, .int gbe, .int gwo, .long gta, .null, .int glr, .int glc, .int gti, .int ggo, .ref gR, .int gch, .ref gD]))], [(gw, .inr (10, [.int gwr, .int gwk, .int gwc, .int gwg, .int gws, .ref gwa, .ref gwb]))], [(gwa, .inl (cy 3, gwan, .inr (.inr (.inr (.inr (yad gwad))))))], xg_rows gwad gwan (cy 1) gwak gwaG, [(gwb, .inl (cy 3, gwbn, .inr (.inr (.inr (.inr (yad gwbd))))))], xg_rows gwbd gwbn (cy 1) gwbk gwbG, [(gB, .inl (cy 4, 5, .inr (.inr (.inr (.inr (yad gBd))))))], xg_rows gBd 5 (cy 2) 5 gBG, [(gK, .inl (cy 4, 5, .inr (.inr (.inr (.inr (yad gKd))))))], xg_rows gKd 5 (cy 2) 5 gKG, [(gU, .inl (cy 3, 5, .inr (.inr (.inr (.inr (yad gUd))))))], xg_rows gUd 5 (cy 1) 5 gUG, [(q_5, .inl (cy 1, x_1.2, .inl x_1.1))]] (0 + 30) (0 + 60) [(0, .ref g), (1, .ref q_5), (2, .int s_6)] 67 [] := by
        intro z_55 e_55; subst e_55; replace ho_6 := ybr_l ho_6
        refine xr_iinc (j := 2) (v := s_6 + 1) (n := 70) C [(2, .int (s_6 + 1)), (0, .ref g), (1, .ref q_5)] dd_X9_isWhole_2.2.2.2.2.2.1 rfl rfl (by decide) rfl rfl ?_
        refine xr_goto (tgt := 7) C dd_X9_isWhole_2.2.2.2.2.2.2.1 rfl ?_
        refine xr_lv (lv' := [(0, .ref g), (1, .ref q_5), (2, .int (s_6 + 1))]) [1, 2, 0] rfl ?_
        exact hk_6 (s_6 + 1) (Option.some.inj ho_6).symm
      refine y_loop (P := fun (s_55 : Int32) => X p l e (yR 5 30 60) s m args below meth c D A H0 6 Q [[(g, .inr (11, [.int gth, .ref gw, .ref gB, .ref gK, .ref gU, .ref gS, .int gbe, .int gwo, .long gta, .null, .int glr, .int glc, .int gti, .int ggo, .ref gR, .int gch, .ref gD]))], [(gw, .inr (10, [.int gwr, .int gwk, .int gwc, .int gwg, .int gws, .ref gwa, .ref gwb]))], [(gwa, .inl (cy 3, gwan, .inr (.inr (.inr (.inr (yad gwad))))))], xg_rows gwad gwan (cy 1) gwak gwaG, [(gwb, .inl (cy 3, gwbn, .inr (.inr (.inr (.inr (yad gwbd))))))], xg_rows gwbd gwbn (cy 1) gwbk gwbG, [(gB, .inl (cy 4, 5, .inr (.inr (.inr (.inr (yad gBd))))))], xg_rows gBd 5 (cy 2) 5 gBG, [(gK, .inl (cy 4, 5, .inr (.inr (.inr (.inr (yad gKd))))))], xg_rows gKd 5 (cy 2) 5 gKG, [(gU, .inl (cy 3, 5, .inr (.inr (.inr (.inr (yad gUd))))))], xg_rows gUd 5 (cy 1) 5 gUG, [(q_5, .inl (cy 1, x_1.2, .inl x_1.1))]] (0 + 30) (0 + 60) [(0, .ref g), (1, .ref q_5), (2, .int s_6), (3, .int s_55)] 20 []) ?_ _ 1 hb_55
      intro s_55 o_55 ho_55 hk_55 hx_55
      refine xr_iload_n (n := 21) (j := 3) C dd_X9_isWhole_0.2.2.2.2.2.2.2.2.2.2.2.2.2.1 rfl rfl ?_
      refine xr_bipush (n := 23) (v := 32) C dd_X9_isWhole_0.2.2.2.2.2.2.2.2.2.2.2.2.2.2.1 rfl rfl ?_
      refine xr_icmp_ge (tgt := 67) (n := 26) C dd_X9_isWhole_0.2.2.2.2.2.2.2.2.2.2.2.2.2.2.2.1 rfl rfl (fun c_56 => ?_) (fun c_56 => ?_)
      · replace ho_55 := yf_t c_56 ho_55
        refine xr_lv (lv' := [(0, .ref g), (1, .ref q_5), (2, .int s_6)]) [0, 1, 2] rfl ?_
        have e_57 := hx_55 _ (Option.some.inj ho_55).symm
        exact K_55 s_55 e_57.symm
      · replace ho_55 := yf_f c_56 ho_55
        refine xr_aload_n (n := 27) (j := 0) C dd_X9_isWhole_1.1 rfl rfl ?_
        refine xr_iload_n (n := 28) (j := 2) C dd_X9_isWhole_1.2.1 rfl rfl ?_
        refine xr_iload_n (n := 29) (j := 3) C dd_X9_isWhole_1.2.2.1 rfl rfl ?_
        obtain ⟨x_58, hx_58, ho_55⟩ := yf_b ho_55
        refine xr_callVp (n := 32) (As := [.int s_6, .int s_55]) (rest := []) C (kX9_crosses_i l D cy (g := g) (gth := gth) (gw := gw) (gB := gB) (gK := gK) (gU := gU) (gS := gS) (gbe := gbe) (gwo := gwo) (gta := gta) (glr := glr) (glc := glc) (gti := gti) (ggo := ggo) (gR := gR) (gch := gch) (gD := gD) (gKd := gKd) (gKG := gKG) (i1 := s_6) (i2 := s_55) hx_58) mX9_crosses u_1373 u_1375 u_33 0 rfl rfl 13 [0, 8, 9] [1, 2, 3, 4, 5, 6, 7, 10, 11, 12] rfl (by decide +kernel) rfl rfl rfl rfl (Nat.le_of_ble_eq_true rfl) (Nat.le_of_ble_eq_true rfl) (Nat.le_of_ble_eq_true rfl) (Nat.le_of_ble_eq_true rfl) (Nat.le_of_ble_eq_true rfl) dd_X9_isWhole_1.2.2.2.1 rfl (fun _ _ hp => hp.2) (fun v_59 hp_61 => ?_)
        obtain ⟨rfl, -⟩ := hp_61
        refine xr_st (st' := [.int x_58]) rfl ?_
        refine xr_if_ne (tgt := 61) (n := 35) C dd_X9_isWhole_1.2.2.2.2.1 rfl rfl (fun c_62 => ?_) (fun c_62 => ?_)
        · replace ho_55 := yf_f c_62 ho_55
          refine xr_iinc (j := 3) (v := s_55 + 1) (n := 64) C [(3, .int (s_55 + 1)), (0, .ref g), (1, .ref q_5), (2, .int s_6)] dd_X9_isWhole_2.2.2.2.1 rfl rfl (by decide) rfl rfl ?_
          refine xr_goto (tgt := 20) C dd_X9_isWhole_2.2.2.2.2.1 rfl ?_
          refine xr_lv (lv' := [(0, .ref g), (1, .ref q_5), (2, .int s_6), (3, .int (s_55 + 1))]) [1, 2, 3, 0] rfl ?_
          exact hk_55 (s_55 + 1) (Option.some.inj ho_55).symm
        · replace ho_55 := yf_t c_62 ho_55
          refine xr_aload_n (n := 36) (j := 0) C dd_X9_isWhole_1.2.2.2.2.2.1 rfl rfl ?_
          refine xr_get (n := 39) C 0 rfl rfl 1 (by decide) in_X9 u_1238 rfl (v := .ref gw) rfl dd_X9_isWhole_1.2.2.2.2.2.2.1 rfl ?_
          refine xr_iload_n (n := 40) (j := 2) C dd_X9_isWhole_1.2.2.2.2.2.2.2.1 rfl rfl ?_
          refine xr_iload_n (n := 41) (j := 3) C dd_X9_isWhole_1.2.2.2.2.2.2.2.2.1 rfl rfl ?_
          refine xr_aload_n (n := 42) (j := 0) C dd_X9_isWhole_1.2.2.2.2.2.2.2.2.2.1 rfl rfl ?_
          refine xr_get (n := 45) C 0 rfl rfl 1 (by decide) in_X9 u_1238 rfl (v := .ref gw) rfl dd_X9_isWhole_1.2.2.2.2.2.2.2.2.2.2.1 rfl ?_
          obtain ⟨x_63, hx_63, ho_55⟩ := yf_b ho_55
          refine xr_callVp (n := 48) (As := []) (rest := [.int s_55, .int s_6, .ref gw]) C (kX8_steps l D cy (w := gw) (wr := gwr) (wk := gwk) (wc := gwc) (wg := gwg) (ws := gws) (wa := gwa) (wb := gwb) (wad := gwad) (wan := gwan) (wak := gwak) (waG := gwaG) (wbd := gwbd) (wbn := gwbn) (wbk := gwbk) (wbG := gwbG) hx_63) mX8_steps u_1359 u_1360 u_1361 1 rfl rfl 13 [1, 2, 3, 4, 5] [0, 6, 7, 8, 9, 10, 11, 12] rfl (by decide +kernel) rfl rfl rfl rfl (Nat.le_of_ble_eq_true rfl) (Nat.le_of_ble_eq_true rfl) (Nat.le_of_ble_eq_true rfl) (Nat.le_of_ble_eq_true rfl) (Nat.le_of_ble_eq_true rfl) dd_X9_isWhole_1.2.2.2.2.2.2.2.2.2.2.2.1 rfl (fun _ _ hp => hp.2) (fun v_64 hp_66 => ?_)
          obtain ⟨rfl, -⟩ := hp_66
          refine xr_st (st' := [.int x_63, .int s_55, .int s_6, .ref gw]) rfl ?_
          obtain ⟨x_67, hx_67, ho_55⟩ := yf_b ho_55
          refine xr_callSp (n := 51) (As := [.ref gw, .int s_6, .int s_55, .int x_63]) (rest := []) C (kX9_beatsOf l D cy (w := gw) (wr := gwr) (wk := gwk) (wc := gwc) (wg := gwg) (ws := gws) (wa := gwa) (wb := gwb) (i1 := s_6) (i2 := s_55) (i3 := x_63) hx_67) mX9_beatsOf u_1380 u_1381 13 [1] [0, 2, 3, 4, 5, 6, 7, 8, 9, 10, 11, 12] rfl (by decide +kernel) rfl rfl rfl rfl (Nat.le_of_ble_eq_true rfl) (Nat.le_of_ble_eq_true rfl) (Nat.le_of_ble_eq_true rfl) (Nat.le_of_ble_eq_true rfl) (Nat.le_of_ble_eq_true rfl) dd_X9_isWhole_1.2.2.2.2.2.2.2.2.2.2.2.2.1 rfl (fun _ _ hp => hp.2) (fun v_68 hp_70 => ?_)
          obtain ⟨rfl, -⟩ := hp_70
          refine xr_st (st' := [.int x_67]) rfl ?_
          refine xr_aload_n (n := 52) (j := 0) C dd_X9_isWhole_1.2.2.2.2.2.2.2.2.2.2.2.2.2.1 rfl rfl ?_
          refine xr_aload_n (n := 53) (j := 1) C dd_X9_isWhole_1.2.2.2.2.2.2.2.2.2.2.2.2.2.2.1 rfl rfl ?_
          obtain ⟨x_71, hx_71, ho_55⟩ := yf_b ho_55
          refine xr_callVp (n := 56) (As := [.ref q_5]) (rest := [.int x_67]) C (kX9_bestTold0_i l D cy (g := g) (gth := gth) (gw := gw) (gB := gB) (gK := gK) (gU := gU) (gS := gS) (gbe := gbe) (gwo := gwo) (gta := gta) (glr := glr) (glc := glc) (gti := gti) (ggo := ggo) (gR := gR) (gch := gch) (gD := gD) (gwr := gwr) (gwk := gwk) (gwc := gwc) (gwg := gwg) (gws := gws) (gwa := gwa) (gwb := gwb) (gwad := gwad) (gwan := gwan) (gwak := gwak) (gwaG := gwaG) (gwbd := gwbd) (gwbn := gwbn) (gwbk := gwbk) (gwbG := gwbG) (bq := q_5) (bf := x_1.1) (bn := x_1.2) hx_71) mX9_bestTold0 u_1584 u_1586 u_55 0 rfl rfl 13 [0, 1, 2, 3, 4, 5, 12] [6, 7, 8, 9, 10, 11] rfl (by decide +kernel) rfl rfl rfl rfl (Nat.le_of_ble_eq_true rfl) (Nat.le_of_ble_eq_true rfl) (Nat.le_of_ble_eq_true rfl) (Nat.le_of_ble_eq_true rfl) (Nat.le_of_ble_eq_true rfl) dd_X9_isWhole_1.2.2.2.2.2.2.2.2.2.2.2.2.2.2.2.1 rfl (fun _ _ hp => hp.2) (fun v_72 hp_74 => ?_)
          obtain ⟨rfl, -⟩ := hp_74
          refine xr_st (st' := [.int x_71, .int x_67]) rfl ?_
          refine xr_icmp_ge (tgt := 61) (n := 59) C dd_X9_isWhole_2.1 rfl rfl (fun c_75 => ?_) (fun c_75 => ?_)
          · replace ho_55 := yf_t c_75 ho_55
            refine xr_iinc (j := 3) (v := s_55 + 1) (n := 64) C [(3, .int (s_55 + 1)), (0, .ref g), (1, .ref q_5), (2, .int s_6)] dd_X9_isWhole_2.2.2.2.1 rfl rfl (by decide) rfl rfl ?_
            refine xr_goto (tgt := 20) C dd_X9_isWhole_2.2.2.2.2.1 rfl ?_
            refine xr_lv (lv' := [(0, .ref g), (1, .ref q_5), (2, .int s_6), (3, .int (s_55 + 1))]) [1, 2, 3, 0] rfl ?_
            exact hk_55 (s_55 + 1) (Option.some.inj ho_55).symm
          · replace ho_55 := yf_f c_75 ho_55
            refine xr_iconst (n := 60) (v := 0) C dd_X9_isWhole_2.2.1 rfl rfl ?_
            have e_76 := hx_55 _ (Option.some.inj ho_55).symm
            subst e_76
            replace ho_6 := ybr_r ho_6
            have e_77 := hx_6 _ (Option.some.inj ho_6).symm
            subst e_77
            replace hR := ybr_r hR
            obtain rfl := Option.some.inj hR
            refine xr_perm C 13 [0, 1, 2, 3, 4, 5, 6, 7, 8, 9, 10, 11] [12] [[(g, .inr (11, [.int gth, .ref gw, .ref gB, .ref gK, .ref gU, .ref gS, .int gbe, .int gwo, .long gta, .null, .int glr, .int glc, .int gti, .int ggo, .ref gR, .int gch, .ref gD]))], [(gw, .inr (10, [.int gwr, .int gwk, .int gwc, .int gwg, .int gws, .ref gwa, .ref gwb]))], [(gwa, .inl (cy 3, gwan, .inr (.inr (.inr (.inr (yad gwad))))))], xg_rows gwad gwan (cy 1) gwak gwaG, [(gwb, .inl (cy 3, gwbn, .inr (.inr (.inr (.inr (yad gwbd))))))], xg_rows gwbd gwbn (cy 1) gwbk gwbG, [(gB, .inl (cy 4, 5, .inr (.inr (.inr (.inr (yad gBd))))))], xg_rows gBd 5 (cy 2) 5 gBG, [(gK, .inl (cy 4, 5, .inr (.inr (.inr (.inr (yad gKd))))))], xg_rows gKd 5 (cy 2) 5 gKG, [(gU, .inl (cy 3, 5, .inr (.inr (.inr (.inr (yad gUd))))))], xg_rows gUd 5 (cy 1) 5 gUG] rfl (by decide +kernel) rfl ?_
            exact ret 0 (by decide) ⟨rfl, rfl⟩ (Nat.le_of_ble_eq_true rfl) (Nat.le_of_ble_eq_true rfl) dd_X9_isWhole_2.2.2.1
def fX9_isWhole_r (gta : Int64) (glr : Int32) (glc : Int32) (gti : Int32) (ggo : Int32) (gwr : Int32) (gwk : Int32) (gwc : Int32) (gwg : Int32) (gws : Int32) (gwan : Nat) (gwak : Nat) (gwaG : Nat → Nat → Int32) (gwbn : Nat) (gwbk : Nat) (gwbG : Nat → Nat → Int32) (gBG : Nat → Nat → Int32) (gKG : Nat → Nat → Int32) (gUG : Nat → Nat → Int32) (gnr : Int32) (gnk : Int32) (gnc : Int32) (gng : Int32) (gns : Int32) (gnan : Nat) (gnak : Nat) (gnaG : Nat → Nat → Int32) (gnbn : Nat) (gnbk : Nat) (gnbG : Nat → Nat → Int32) : Option (Int32) := ((fX9_bestLayout_r gwr gwk gwc gwg gws gwan gwak gwaG gwbn gwbk gwbG gKG).bind fun x_1 => ((wl (S := Int32) (B := (Int32) ⊕ Int32) (fun s_6 => (if 32 ≤ s_6 then some (.inr (.inl s_6)) else (if (nI x_1.2) ≤ 0 then some (.inr (.inl s_6)) else ((wl (S := Int32) (B := (Int32) ⊕ Int32) (fun s_65 => (if 32 ≤ s_65 then some (.inr (.inl s_65)) else ((fX9_crosses_r gKG s_6 s_65).bind fun x_68 => (if x_68 = 0 then ((fX8_steps gwk gwg gwan gwak gwaG gwbn gwbk gwbG).bind fun x_73 => ((fX9_beatsOf gwr gwc gws s_6 s_65 x_73).bind fun x_77 => ((fX9_bestTold0_r gwr gwk gwc gwg gws gwan gwak gwaG gwbn gwbk gwbG x_1.1 x_1.2).bind fun x_81 => (if x_81 ≤ x_77 then some (.inl (s_65 + 1)) else some (.inr (.inr 0)))))) else some (.inl (s_65 + 1)))))) yFuel 1).bind fun b_65 => ybr b_65 (fun z_65 => some (.inl (s_6 + 1))) (fun r => some (.inr (.inr r))))))) yFuel 1).bind fun b_6 => ybr b_6 (fun z_6 => (if (nI x_1.2) ≤ 0 then ((wl (S := Int64 × Int32) (B := (Int64 × Int32) ⊕ Int32) (fun s_8 => (if 5 ≤ s_8.2 then some (.inr (.inl (s_8.1, s_8.2))) else ((wl (S := Int64 × Int32) (B := (Int64 × Int32) ⊕ Int32) (fun s_17 => (if 5 ≤ s_17.2 then some (.inr (.inl (s_17.1, s_17.2))) else (if ¬ (s_8.2 < 0 ∨ 5 ≤ s_8.2.toNatClampNeg) then (if ¬ (s_17.2 < 0 ∨ 5 ≤ s_17.2.toNatClampNeg) then (ylet (s_17.1 + ((gUG s_8.2.toNatClampNeg s_17.2.toNatClampNeg).toInt64) : Int64) fun y_22 => (if ¬ (s_8.2 < 0 ∨ 5 ≤ s_8.2.toNatClampNeg) then (if ¬ (s_17.2 < 0 ∨ 5 ≤ s_17.2.toNatClampNeg) then (if (gKG s_8.2.toNatClampNeg s_17.2.toNatClampNeg) = 0 then some (.inl (y_22, s_17.2 + 1)) else (if ¬ (s_8.2 < 0 ∨ 5 ≤ s_8.2.toNatClampNeg) then (if ¬ (s_17.2 < 0 ∨ 5 ≤ s_17.2.toNatClampNeg) then (if (gBG s_8.2.toNatClampNeg s_17.2.toNatClampNeg) = 0 then some (.inr (.inr 0)) else some (.inl (y_22, s_17.2 + 1))) else none) else none)) else none) else none)) else none) else none))) yFuel (s_8.1, 0)).bind fun b_17 => ybr b_17 (fun z_17 => some (.inl (z_17.1, s_8.2 + 1))) (fun r => some (.inr (.inr r)))))) yFuel (0, 0)).bind fun b_8 => ybr b_8 (fun z_8 => (if (lg_cmp z_8.1 gta) = 0 then ((fX9_rest_r glr glc gti ggo gnr gnk gnc gng gns gnan gnak gnaG gnbn gnbk gnbG).bind fun x_10 => (if x_10 ≤ 0 then some 0 else some 1)) else some 0)) (fun r => some r)) else (if ¬ ((0 : Int32) < 0 ∨ x_1.2 ≤ (0 : Int32).toNatClampNeg) then (if ¬ ((1 : Int32) < 0 ∨ x_1.2 ≤ (1 : Int32).toNatClampNeg) then ((fX9_crosses_r gKG (x_1.1 (0 : Int32).toNatClampNeg) (x_1.1 (1 : Int32).toNatClampNeg)).bind fun x_33 => (if x_33 = 0 then ((wl (S := Int64 × Int32) (B := (Int64 × Int32) ⊕ Int32) (fun s_38 => (if 5 ≤ s_38.2 then some (.inr (.inl (s_38.1, s_38.2))) else ((wl (S := Int64 × Int32) (B := (Int64 × Int32) ⊕ Int32) (fun s_47 => (if 5 ≤ s_47.2 then some (.inr (.inl (s_47.1, s_47.2))) else (if ¬ (s_38.2 < 0 ∨ 5 ≤ s_38.2.toNatClampNeg) then (if ¬ (s_47.2 < 0 ∨ 5 ≤ s_47.2.toNatClampNeg) then (ylet (s_47.1 + ((gUG s_38.2.toNatClampNeg s_47.2.toNatClampNeg).toInt64) : Int64) fun y_52 => (if ¬ (s_38.2 < 0 ∨ 5 ≤ s_38.2.toNatClampNeg) then (if ¬ (s_47.2 < 0 ∨ 5 ≤ s_47.2.toNatClampNeg) then (if (gKG s_38.2.toNatClampNeg s_47.2.toNatClampNeg) = 0 then some (.inl (y_52, s_47.2 + 1)) else (if ¬ (s_38.2 < 0 ∨ 5 ≤ s_38.2.toNatClampNeg) then (if ¬ (s_47.2 < 0 ∨ 5 ≤ s_47.2.toNatClampNeg) then (if (gBG s_38.2.toNatClampNeg s_47.2.toNatClampNeg) = 0 then some (.inr (.inr 0)) else some (.inl (y_52, s_47.2 + 1))) else none) else none)) else none) else none)) else none) else none))) yFuel (s_38.1, 0)).bind fun b_47 => ybr b_47 (fun z_47 => some (.inl (z_47.1, s_38.2 + 1))) (fun r => some (.inr (.inr r)))))) yFuel (0, 0)).bind fun b_38 => ybr b_38 (fun z_38 => (if (lg_cmp z_38.1 gta) = 0 then ((fX9_rest_r glr glc gti ggo gnr gnk gnc gng gns gnan gnak gnaG gnbn gnbk gnbG).bind fun x_40 => (if x_40 ≤ 0 then some 0 else some 1)) else some 0)) (fun r => some r)) else some 0)) else none) else none))) (fun r => some r)))
set_option maxHeartbeats 4000000 in
set_option maxRecDepth 100000 in
theorem kX9_isWhole_r (l : Launch) (D : va_G) (cy : Nat → ClassId) (g : Nat) (gth : Int32) (gw : Nat) (gB : Nat) (gK : Nat) (gU : Nat) (gS : Nat) (gbe : Int32) (gwo : Int32) (gta : Int64) (gn : Nat) (glr : Int32) (glc : Int32) (gti : Int32) (ggo : Int32) (gR : Nat) (gch : Int32) (gD : Nat) (gwr : Int32) (gwk : Int32) (gwc : Int32) (gwg : Int32) (gws : Int32) (gwa : Nat) (gwb : Nat) (gwad : Nat → Nat) (gwan : Nat) (gwak : Nat) (gwaG : Nat → Nat → Int32) (gwbd : Nat → Nat) (gwbn : Nat) (gwbk : Nat) (gwbG : Nat → Nat → Int32) (gBd : Nat → Nat) (gBG : Nat → Nat → Int32) (gKd : Nat → Nat) (gKG : Nat → Nat → Int32) (gUd : Nat → Nat) (gUG : Nat → Nat → Int32) (gnr : Int32) (gnk : Int32) (gnc : Int32) (gng : Int32) (gns : Int32) (gna : Nat) (gnb : Nat) (gnad : Nat → Nat) (gnan : Nat) (gnak : Nat) (gnaG : Nat → Nat → Int32) (gnbd : Nat → Nat) (gnbn : Nat) (gnbk : Nat) (gnbG : Nat → Nat → Int32) {res : Int32} (hR : fX9_isWhole_r gta glr glc gti ggo gwr gwk gwc gwg gws gwan gwak gwaG gwbn gwbk gwbG gBG gKG gUG gnr gnk gnc gng gns gnan gnak gnaG gnbn gnbk gnbG = some res) : YM l D cy yX9_isWhole hX9_isWhole 6 30 60 [.ref g] [[(g, .inr (11, [.int gth, .ref gw, .ref gB, .ref gK, .ref gU, .ref gS, .int gbe, .int gwo, .long gta, .ref gn, .int glr, .int glc, .int gti, .int ggo, .ref gR, .int gch, .ref gD]))], [(gw, .inr (10, [.int gwr, .int gwk, .int gwc, .int gwg, .int gws, .ref gwa, .ref gwb]))], [(gwa, .inl (cy 3, gwan, .inr (.inr (.inr (.inr (yad gwad))))))], xg_rows gwad gwan (cy 1) gwak gwaG, [(gwb, .inl (cy 3, gwbn, .inr (.inr (.inr (.inr (yad gwbd))))))], xg_rows gwbd gwbn (cy 1) gwbk gwbG, [(gB, .inl (cy 4, 5, .inr (.inr (.inr (.inr (yad gBd))))))], xg_rows gBd 5 (cy 2) 5 gBG, [(gK, .inl (cy 4, 5, .inr (.inr (.inr (.inr (yad gKd))))))], xg_rows gKd 5 (cy 2) 5 gKG, [(gU, .inl (cy 3, 5, .inr (.inr (.inr (.inr (yad gUd))))))], xg_rows gUd 5 (cy 1) 5 gUG, [(gn, .inr (10, [.int gnr, .int gnk, .int gnc, .int gng, .int gns, .ref gna, .ref gnb]))], [(gna, .inl (cy 3, gnan, .inr (.inr (.inr (.inr (yad gnad))))))], xg_rows gnad gnan (cy 1) gnak gnaG, [(gnb, .inl (cy 3, gnbn, .inr (.inr (.inr (.inr (yad gnbd))))))], xg_rows gnbd gnbn (cy 1) gnbk gnbG] (fun v u => v = some (.int res) ∧ u = [[(g, .inr (11, [.int gth, .ref gw, .ref gB, .ref gK, .ref gU, .ref gS, .int gbe, .int gwo, .long gta, .ref gn, .int glr, .int glc, .int gti, .int ggo, .ref gR, .int gch, .ref gD]))], [(gw, .inr (10, [.int gwr, .int gwk, .int gwc, .int gwg, .int gws, .ref gwa, .ref gwb]))], [(gwa, .inl (cy 3, gwan, .inr (.inr (.inr (.inr (yad gwad))))))], xg_rows gwad gwan (cy 1) gwak gwaG, [(gwb, .inl (cy 3, gwbn, .inr (.inr (.inr (.inr (yad gwbd))))))], xg_rows gwbd gwbn (cy 1) gwbk gwbG, [(gB, .inl (cy 4, 5, .inr (.inr (.inr (.inr (yad gBd))))))], xg_rows gBd 5 (cy 2) 5 gBG, [(gK, .inl (cy 4, 5, .inr (.inr (.inr (.inr (yad gKd))))))], xg_rows gKd 5 (cy 2) 5 gKG, [(gU, .inl (cy 3, 5, .inr (.inr (.inr (.inr (yad gUd))))))], xg_rows gUd 5 (cy 1) 5 gUG, [(gn, .inr (10, [.int gnr, .int gnk, .int gnc, .int gng, .int gns, .ref gna, .ref gnb]))], [(gna, .inl (cy 3, gnan, .inr (.inr (.inr (.inr (yad gnad))))))], xg_rows gnad gnan (cy 1) gnak gnaG, [(gnb, .inl (cy 3, gnbn, .inr (.inr (.inr (.inr (yad gnbd))))))], xg_rows gnbd gnbn (cy 1) gnbk gnbG]) := by
  unfold fX9_isWhole_r at hR
  refine YM.ofZ (cc := cX9_isWhole) (maxL := 6) (ret := (some .boolean)) (by decide +kernel) rfl (Nat.le_of_ble_eq_true rfl) [(0, .ref g)] rfl .boolean rfl (fun p e s m args below meth c A H0 Q C hnm ret => ?_)
  refine xr_aload_n (n := 1) (j := 0) C dd_X9_isWhole_0.1 rfl rfl ?_
  obtain ⟨x_1, hx_1, hR⟩ := yf_b hR
  refine xr_callV (n := 4) (As := []) (rest := []) C (kX9_bestLayout_r l D cy (g := g) (gth := gth) (gw := gw) (gB := gB) (gK := gK) (gU := gU) (gS := gS) (gbe := gbe) (gwo := gwo) (gta := gta) (gn := gn) (glr := glr) (glc := glc) (gti := gti) (ggo := ggo) (gR := gR) (gch := gch) (gD := gD) (gwr := gwr) (gwk := gwk) (gwc := gwc) (gwg := gwg) (gws := gws) (gwa := gwa) (gwb := gwb) (gwad := gwad) (gwan := gwan) (gwak := gwak) (gwaG := gwaG) (gwbd := gwbd) (gwbn := gwbn) (gwbk := gwbk) (gwbG := gwbG) (gKd := gKd) (gKG := gKG) hx_1) mX9_bestLayout u_1355 u_1357 u_32 0 rfl rfl 17 [0, 1, 2, 3, 4, 5, 8, 9] [6, 7, 10, 11, 12, 13, 14, 15, 16] rfl (by decide +kernel) rfl rfl rfl rfl (Nat.le_of_ble_eq_true rfl) (Nat.le_of_ble_eq_true rfl) (Nat.le_of_ble_eq_true rfl) (Nat.le_of_ble_eq_true rfl) (Nat.le_of_ble_eq_true rfl) dd_X9_isWhole_0.2.1 rfl (fun v_2 u_3 hp_4 => ?_)
  obtain ⟨q_5, rfl, rfl⟩ := hp_4
  refine xr_perm C 18 [0, 1, 2, 3, 4, 5, 9, 10, 6, 7, 11, 12, 13, 14, 15, 16, 17, 8] [] [[(g, .inr (11, [.int gth, .ref gw, .ref gB, .ref gK, .ref gU, .ref gS, .int gbe, .int gwo, .long gta, .ref gn, .int glr, .int glc, .int gti, .int ggo, .ref gR, .int gch, .ref gD]))], [(gw, .inr (10, [.int gwr, .int gwk, .int gwc, .int gwg, .int gws, .ref gwa, .ref gwb]))], [(gwa, .inl (cy 3, gwan, .inr (.inr (.inr (.inr (yad gwad))))))], xg_rows gwad gwan (cy 1) gwak gwaG, [(gwb, .inl (cy 3, gwbn, .inr (.inr (.inr (.inr (yad gwbd))))))], xg_rows gwbd gwbn (cy 1) gwbk gwbG, [(gB, .inl (cy 4, 5, .inr (.inr (.inr (.inr (yad gBd))))))], xg_rows gBd 5 (cy 2) 5 gBG, [(gK, .inl (cy 4, 5, .inr (.inr (.inr (.inr (yad gKd))))))], xg_rows gKd 5 (cy 2) 5 gKG, [(gU, .inl (cy 3, 5, .inr (.inr (.inr (.inr (yad gUd))))))], xg_rows gUd 5 (cy 1) 5 gUG, [(gn, .inr (10, [.int gnr, .int gnk, .int gnc, .int gng, .int gns, .ref gna, .ref gnb]))], [(gna, .inl (cy 3, gnan, .inr (.inr (.inr (.inr (yad gnad))))))], xg_rows gnad gnan (cy 1) gnak gnaG, [(gnb, .inl (cy 3, gnbn, .inr (.inr (.inr (.inr (yad gnbd))))))], xg_rows gnbd gnbn (cy 1) gnbk gnbG, [(q_5, .inl (cy 1, x_1.2, .inl x_1.1))]] rfl (by decide +kernel) rfl ?_
  refine xr_st (st' := [.ref q_5]) rfl ?_
  refine xr_astore_n (n := 5) C [(1, .ref q_5), (0, .ref g)] dd_X9_isWhole_0.2.2.1 (by decide) rfl rfl ?_
  refine xr_iconst (n := 6) (v := 1) C dd_X9_isWhole_0.2.2.2.1 rfl rfl ?_
  refine xr_istore_n (n := 7) C [(2, .int 1), (1, .ref q_5), (0, .ref g)] dd_X9_isWhole_0.2.2.2.2.1 (by decide) rfl rfl ?_
  refine xr_lv (lv' := [(0, .ref g), (1, .ref q_5), (2, .int 1)]) [2, 1, 0] rfl ?_
  obtain ⟨b_6, hb_6, hR⟩ := yf_b hR
  have K_6 : ∀ z_6, b_6 = .inl z_6 → X p l e (yR 6 30 60) s m args below meth c D A H0 6 Q [[(g, .inr (11, [.int gth, .ref gw, .ref gB, .ref gK, .ref gU, .ref gS, .int gbe, .int gwo, .long gta, .ref gn, .int glr, .int glc, .int gti, .int ggo, .ref gR, .int gch, .ref gD]))], [(gw, .inr (10, [.int gwr, .int gwk, .int gwc, .int gwg, .int gws, .ref gwa, .ref gwb]))], [(gwa, .inl (cy 3, gwan, .inr (.inr (.inr (.inr (yad gwad))))))], xg_rows gwad gwan (cy 1) gwak gwaG, [(gwb, .inl (cy 3, gwbn, .inr (.inr (.inr (.inr (yad gwbd))))))], xg_rows gwbd gwbn (cy 1) gwbk gwbG, [(gB, .inl (cy 4, 5, .inr (.inr (.inr (.inr (yad gBd))))))], xg_rows gBd 5 (cy 2) 5 gBG, [(gK, .inl (cy 4, 5, .inr (.inr (.inr (.inr (yad gKd))))))], xg_rows gKd 5 (cy 2) 5 gKG, [(gU, .inl (cy 3, 5, .inr (.inr (.inr (.inr (yad gUd))))))], xg_rows gUd 5 (cy 1) 5 gUG, [(gn, .inr (10, [.int gnr, .int gnk, .int gnc, .int gng, .int gns, .ref gna, .ref gnb]))], [(gna, .inl (cy 3, gnan, .inr (.inr (.inr (.inr (yad gnad))))))], xg_rows gnad gnan (cy 1) gnak gnaG, [(gnb, .inl (cy 3, gnbn, .inr (.inr (.inr (.inr (yad gnbd))))))], xg_rows gnbd gnbn (cy 1) gnbk gnbG, [(q_5, .inl (cy 1, x_1.2, .inl x_1.1))]] (0 + 30) (0 + 60) [(0, .ref g), (1, .ref q_5)] 73 [] := by
    intro z_6 e_6; subst e_6; replace hR := ybr_l hR
    refine xr_aload_n (n := 74) (j := 1) C dd_X9_isWhole_2.2.2.2.2.2.2.2.1 rfl rfl ?_
    refine xr_alen (n := 75) C 17 0 rfl 1 rfl rfl dd_X9_isWhole_2.2.2.2.2.2.2.2.2.1 rfl ?_
    refine xr_if_le (tgt := 93) (n := 78) C dd_X9_isWhole_2.2.2.2.2.2.2.2.2.2.1 rfl rfl (fun c_7 => ?_) (fun c_7 => ?_)
    · replace hR := yf_t c_7 hR
      refine xr_lconst (n := 94) (v := 0) C dd_X9_isWhole_3.2.2.2.2.2.1 rfl rfl ?_
      refine xr_lstore_n (n := 95) C [(2, .long 0), (0, .ref g), (1, .ref q_5)] dd_X9_isWhole_3.2.2.2.2.2.2.1 (by decide) rfl rfl ?_
      refine xr_iconst (n := 96) (v := 0) C dd_X9_isWhole_3.2.2.2.2.2.2.2.1 rfl rfl ?_
      refine xr_istore (n := 98) C [(4, .int 0), (2, .long 0), (0, .ref g), (1, .ref q_5)] dd_X9_isWhole_3.2.2.2.2.2.2.2.2.1 (by decide) rfl rfl ?_
      refine xr_lv (lv' := [(0, .ref g), (2, .long 0), (4, .int 0)]) [2, 1, 0] rfl ?_
      obtain ⟨b_8, hb_8, hR⟩ := yf_b hR
      have K_8 : ∀ z_8, b_8 = .inl z_8 → X p l e (yR 6 30 60) s m args below meth c D A H0 6 Q [[(g, .inr (11, [.int gth, .ref gw, .ref gB, .ref gK, .ref gU, .ref gS, .int gbe, .int gwo, .long gta, .ref gn, .int glr, .int glc, .int gti, .int ggo, .ref gR, .int gch, .ref gD]))], [(gw, .inr (10, [.int gwr, .int gwk, .int gwc, .int gwg, .int gws, .ref gwa, .ref gwb]))], [(gwa, .inl (cy 3, gwan, .inr (.inr (.inr (.inr (yad gwad))))))], xg_rows gwad gwan (cy 1) gwak gwaG, [(gwb, .inl (cy 3, gwbn, .inr (.inr (.inr (.inr (yad gwbd))))))], xg_rows gwbd gwbn (cy 1) gwbk gwbG, [(gB, .inl (cy 4, 5, .inr (.inr (.inr (.inr (yad gBd))))))], xg_rows gBd 5 (cy 2) 5 gBG, [(gK, .inl (cy 4, 5, .inr (.inr (.inr (.inr (yad gKd))))))], xg_rows gKd 5 (cy 2) 5 gKG, [(gU, .inl (cy 3, 5, .inr (.inr (.inr (.inr (yad gUd))))))], xg_rows gUd 5 (cy 1) 5 gUG, [(gn, .inr (10, [.int gnr, .int gnk, .int gnc, .int gng, .int gns, .ref gna, .ref gnb]))], [(gna, .inl (cy 3, gnan, .inr (.inr (.inr (.inr (yad gnad))))))], xg_rows gnad gnan (cy 1) gnak gnaG, [(gnb, .inl (cy 3, gnbn, .inr (.inr (.inr (.inr (yad gnbd))))))], xg_rows gnbd gnbn (cy 1) gnbk gnbG, [(q_5, .inl (cy 1, x_1.2, .inl x_1.1))]] (0 + 30) (0 + 60) [(0, .ref g), (2, .long z_8.1)] 167 [] := by
        intro z_8 e_8; subst e_8; replace hR := ybr_l hR
        refine xr_lload_n (n := 168) (j := 1) C dd_X9_isWhole_5.2.2.2.2.2.2.2.2.2.2.2.2.2.2.2.1 rfl rfl ?_
        refine xr_aload_n (n := 169) (j := 0) C dd_X9_isWhole_6.1 rfl rfl ?_
        refine xr_get (n := 172) C 0 rfl rfl 8 (by decide) in_X9 u_1245 rfl (v := .long gta) rfl dd_X9_isWhole_6.2.1 rfl ?_
        refine xr_lcmp (n := 173) C dd_X9_isWhole_6.2.2.1 rfl ?_
        refine xr_if_ne (tgt := 194) (n := 176) C dd_X9_isWhole_6.2.2.2.1 rfl rfl (fun c_9 => ?_) (fun c_9 => ?_)
        · replace hR := yf_f c_9 hR
          refine xr_iconst (n := 195) (v := 0) C dd_X9_isWhole_6.2.2.2.2.2.2.2.2.2.2.2.2.1 rfl rfl ?_
          obtain rfl := Option.some.inj hR
          refine xr_perm C 18 [0, 1, 2, 3, 4, 5, 6, 7, 8, 9, 10, 11, 12, 13, 14, 15, 16] [17] [[(g, .inr (11, [.int gth, .ref gw, .ref gB, .ref gK, .ref gU, .ref gS, .int gbe, .int gwo, .long gta, .ref gn, .int glr, .int glc, .int gti, .int ggo, .ref gR, .int gch, .ref gD]))], [(gw, .inr (10, [.int gwr, .int gwk, .int gwc, .int gwg, .int gws, .ref gwa, .ref gwb]))], [(gwa, .inl (cy 3, gwan, .inr (.inr (.inr (.inr (yad gwad))))))], xg_rows gwad gwan (cy 1) gwak gwaG, [(gwb, .inl (cy 3, gwbn, .inr (.inr (.inr (.inr (yad gwbd))))))], xg_rows gwbd gwbn (cy 1) gwbk gwbG, [(gB, .inl (cy 4, 5, .inr (.inr (.inr (.inr (yad gBd))))))], xg_rows gBd 5 (cy 2) 5 gBG, [(gK, .inl (cy 4, 5, .inr (.inr (.inr (.inr (yad gKd))))))], xg_rows gKd 5 (cy 2) 5 gKG, [(gU, .inl (cy 3, 5, .inr (.inr (.inr (.inr (yad gUd))))))], xg_rows gUd 5 (cy 1) 5 gUG, [(gn, .inr (10, [.int gnr, .int gnk, .int gnc, .int gng, .int gns, .ref gna, .ref gnb]))], [(gna, .inl (cy 3, gnan, .inr (.inr (.inr (.inr (yad gnad))))))], xg_rows gnad gnan (cy 1) gnak gnaG, [(gnb, .inl (cy 3, gnbn, .inr (.inr (.inr (.inr (yad gnbd))))))], xg_rows gnbd gnbn (cy 1) gnbk gnbG] rfl (by decide +kernel) rfl ?_
          exact ret 0 (by decide) ⟨rfl, rfl⟩ (Nat.le_of_ble_eq_true rfl) (Nat.le_of_ble_eq_true rfl) dd_X9_isWhole_6.2.2.2.2.2.2.2.2.2.2.2.2.2.1
        · replace hR := yf_t c_9 hR
          refine xr_aload_n (n := 177) (j := 0) C dd_X9_isWhole_6.2.2.2.2.1 rfl rfl ?_
          refine xr_get (n := 180) C 0 rfl rfl 9 (by decide) in_X9 u_1246 rfl (v := .ref gn) rfl dd_X9_isWhole_6.2.2.2.2.2.1 rfl ?_
          refine xr_ifnull (n := 183) C dd_X9_isWhole_6.2.2.2.2.2.2.1 rfl ?_
          refine xr_aload_n (n := 184) (j := 0) C dd_X9_isWhole_6.2.2.2.2.2.2.2.1 rfl rfl ?_
          obtain ⟨x_10, hx_10, hR⟩ := yf_b hR
          refine xr_callVp (n := 187) (As := []) (rest := []) C (kX9_rest_r l D cy (g := g) (gth := gth) (gw := gw) (gB := gB) (gK := gK) (gU := gU) (gS := gS) (gbe := gbe) (gwo := gwo) (gta := gta) (gn := gn) (glr := glr) (glc := glc) (gti := gti) (ggo := ggo) (gR := gR) (gch := gch) (gD := gD) (gnr := gnr) (gnk := gnk) (gnc := gnc) (gng := gng) (gns := gns) (gna := gna) (gnb := gnb) (gnad := gnad) (gnan := gnan) (gnak := gnak) (gnaG := gnaG) (gnbd := gnbd) (gnbn := gnbn) (gnbk := gnbk) (gnbG := gnbG) hx_10) mX9_left_ u_1418 u_1420 u_35 0 rfl rfl 18 [0, 12, 13, 14, 15, 16] [1, 2, 3, 4, 5, 6, 7, 8, 9, 10, 11, 17] rfl (by decide +kernel) rfl rfl rfl rfl (Nat.le_of_ble_eq_true rfl) (Nat.le_of_ble_eq_true rfl) (Nat.le_of_ble_eq_true rfl) (Nat.le_of_ble_eq_true rfl) (Nat.le_of_ble_eq_true rfl) dd_X9_isWhole_6.2.2.2.2.2.2.2.2.1 rfl (fun _ _ hp => hp.2) (fun v_11 hp_13 => ?_)
          obtain ⟨rfl, -⟩ := hp_13
          refine xr_st (st' := [.int x_10]) rfl ?_
          refine xr_if_le (tgt := 194) (n := 190) C dd_X9_isWhole_6.2.2.2.2.2.2.2.2.2.1 rfl rfl (fun c_14 => ?_) (fun c_14 => ?_)
          · replace hR := yf_t c_14 hR
            refine xr_iconst (n := 195) (v := 0) C dd_X9_isWhole_6.2.2.2.2.2.2.2.2.2.2.2.2.1 rfl rfl ?_
            obtain rfl := Option.some.inj hR
            refine xr_perm C 18 [0, 1, 2, 3, 4, 5, 6, 7, 8, 9, 10, 11, 12, 13, 14, 15, 16] [17] [[(g, .inr (11, [.int gth, .ref gw, .ref gB, .ref gK, .ref gU, .ref gS, .int gbe, .int gwo, .long gta, .ref gn, .int glr, .int glc, .int gti, .int ggo, .ref gR, .int gch, .ref gD]))], [(gw, .inr (10, [.int gwr, .int gwk, .int gwc, .int gwg, .int gws, .ref gwa, .ref gwb]))], [(gwa, .inl (cy 3, gwan, .inr (.inr (.inr (.inr (yad gwad))))))], xg_rows gwad gwan (cy 1) gwak gwaG, [(gwb, .inl (cy 3, gwbn, .inr (.inr (.inr (.inr (yad gwbd))))))], xg_rows gwbd gwbn (cy 1) gwbk gwbG, [(gB, .inl (cy 4, 5, .inr (.inr (.inr (.inr (yad gBd))))))], xg_rows gBd 5 (cy 2) 5 gBG, [(gK, .inl (cy 4, 5, .inr (.inr (.inr (.inr (yad gKd))))))], xg_rows gKd 5 (cy 2) 5 gKG, [(gU, .inl (cy 3, 5, .inr (.inr (.inr (.inr (yad gUd))))))], xg_rows gUd 5 (cy 1) 5 gUG, [(gn, .inr (10, [.int gnr, .int gnk, .int gnc, .int gng, .int gns, .ref gna, .ref gnb]))], [(gna, .inl (cy 3, gnan, .inr (.inr (.inr (.inr (yad gnad))))))], xg_rows gnad gnan (cy 1) gnak gnaG, [(gnb, .inl (cy 3, gnbn, .inr (.inr (.inr (.inr (yad gnbd))))))], xg_rows gnbd gnbn (cy 1) gnbk gnbG] rfl (by decide +kernel) rfl ?_
            exact ret 0 (by decide) ⟨rfl, rfl⟩ (Nat.le_of_ble_eq_true rfl) (Nat.le_of_ble_eq_true rfl) dd_X9_isWhole_6.2.2.2.2.2.2.2.2.2.2.2.2.2.1
          · replace hR := yf_f c_14 hR
            refine xr_iconst (n := 191) (v := 1) C dd_X9_isWhole_6.2.2.2.2.2.2.2.2.2.2.1 rfl rfl ?_
            refine xr_goto (tgt := 195) C dd_X9_isWhole_6.2.2.2.2.2.2.2.2.2.2.2.1 rfl ?_
            obtain rfl := Option.some.inj hR
            refine xr_perm C 18 [0, 1, 2, 3, 4, 5, 6, 7, 8, 9, 10, 11, 12, 13, 14, 15, 16] [17] [[(g, .inr (11, [.int gth, .ref gw, .ref gB, .ref gK, .ref gU, .ref gS, .int gbe, .int gwo, .long gta, .ref gn, .int glr, .int glc, .int gti, .int ggo, .ref gR, .int gch, .ref gD]))], [(gw, .inr (10, [.int gwr, .int gwk, .int gwc, .int gwg, .int gws, .ref gwa, .ref gwb]))], [(gwa, .inl (cy 3, gwan, .inr (.inr (.inr (.inr (yad gwad))))))], xg_rows gwad gwan (cy 1) gwak gwaG, [(gwb, .inl (cy 3, gwbn, .inr (.inr (.inr (.inr (yad gwbd))))))], xg_rows gwbd gwbn (cy 1) gwbk gwbG, [(gB, .inl (cy 4, 5, .inr (.inr (.inr (.inr (yad gBd))))))], xg_rows gBd 5 (cy 2) 5 gBG, [(gK, .inl (cy 4, 5, .inr (.inr (.inr (.inr (yad gKd))))))], xg_rows gKd 5 (cy 2) 5 gKG, [(gU, .inl (cy 3, 5, .inr (.inr (.inr (.inr (yad gUd))))))], xg_rows gUd 5 (cy 1) 5 gUG, [(gn, .inr (10, [.int gnr, .int gnk, .int gnc, .int gng, .int gns, .ref gna, .ref gnb]))], [(gna, .inl (cy 3, gnan, .inr (.inr (.inr (.inr (yad gnad))))))], xg_rows gnad gnan (cy 1) gnak gnaG, [(gnb, .inl (cy 3, gnbn, .inr (.inr (.inr (.inr (yad gnbd))))))], xg_rows gnbd gnbn (cy 1) gnbk gnbG] rfl (by decide +kernel) rfl ?_
            exact ret 1 (by decide) ⟨rfl, rfl⟩ (Nat.le_of_ble_eq_true rfl) (Nat.le_of_ble_eq_true rfl) dd_X9_isWhole_6.2.2.2.2.2.2.2.2.2.2.2.2.2.1
      refine y_loop (P := fun (s_8 : Int64 × Int32) => X p l e (yR 6 30 60) s m args below meth c D A H0 6 Q [[(g, .inr (11, [.int gth, .ref gw, .ref gB, .ref gK, .ref gU, .ref gS, .int gbe, .int gwo, .long gta, .ref gn, .int glr, .int glc, .int gti, .int ggo, .ref gR, .int gch, .ref gD]))], [(gw, .inr (10, [.int gwr, .int gwk, .int gwc, .int gwg, .int gws, .ref gwa, .ref gwb]))], [(gwa, .inl (cy 3, gwan, .inr (.inr (.inr (.inr (yad gwad))))))], xg_rows gwad gwan (cy 1) gwak gwaG, [(gwb, .inl (cy 3, gwbn, .inr (.inr (.inr (.inr (yad gwbd))))))], xg_rows gwbd gwbn (cy 1) gwbk gwbG, [(gB, .inl (cy 4, 5, .inr (.inr (.inr (.inr (yad gBd))))))], xg_rows gBd 5 (cy 2) 5 gBG, [(gK, .inl (cy 4, 5, .inr (.inr (.inr (.inr (yad gKd))))))], xg_rows gKd 5 (cy 2) 5 gKG, [(gU, .inl (cy 3, 5, .inr (.inr (.inr (.inr (yad gUd))))))], xg_rows gUd 5 (cy 1) 5 gUG, [(gn, .inr (10, [.int gnr, .int gnk, .int gnc, .int gng, .int gns, .ref gna, .ref gnb]))], [(gna, .inl (cy 3, gnan, .inr (.inr (.inr (.inr (yad gnad))))))], xg_rows gnad gnan (cy 1) gnak gnaG, [(gnb, .inl (cy 3, gnbn, .inr (.inr (.inr (.inr (yad gnbd))))))], xg_rows gnbd gnbn (cy 1) gnbk gnbG, [(q_5, .inl (cy 1, x_1.2, .inl x_1.1))]] (0 + 30) (0 + 60) [(0, .ref g), (2, .long s_8.1), (4, .int s_8.2)] 98 []) ?_ _ (0, 0) hb_8
      intro s_8 o_8 ho_8 hk_8 hx_8
      refine xr_iload (n := 100) (j := 2) C dd_X9_isWhole_3.2.2.2.2.2.2.2.2.2.1 rfl rfl ?_
      refine xr_iconst (n := 101) (v := 5) C dd_X9_isWhole_3.2.2.2.2.2.2.2.2.2.2.1 rfl rfl ?_
      refine xr_icmp_ge (tgt := 167) (n := 104) C dd_X9_isWhole_3.2.2.2.2.2.2.2.2.2.2.2.1 rfl rfl (fun c_15 => ?_) (fun c_15 => ?_)
      · replace ho_8 := yf_t c_15 ho_8
        refine xr_lv (lv' := [(0, .ref g), (2, .long s_8.1)]) [0, 1] rfl ?_
        have e_16 := hx_8 _ (Option.some.inj ho_8).symm
        exact K_8 (s_8.1, s_8.2) e_16.symm
      · replace ho_8 := yf_f c_15 ho_8
        refine xr_iconst (n := 105) (v := 0) C dd_X9_isWhole_3.2.2.2.2.2.2.2.2.2.2.2.2.1 rfl rfl ?_
        refine xr_istore (n := 107) C [(5, .int 0), (0, .ref g), (2, .long s_8.1), (4, .int s_8.2)] dd_X9_isWhole_3.2.2.2.2.2.2.2.2.2.2.2.2.2.1 (by decide) rfl rfl ?_
        refine xr_lv (lv' := [(0, .ref g), (2, .long s_8.1), (4, .int s_8.2), (5, .int 0)]) [1, 2, 3, 0] rfl ?_
        obtain ⟨b_17, hb_17, ho_8⟩ := yf_b ho_8
        have K_17 : ∀ z_17, b_17 = .inl z_17 → X p l e (yR 6 30 60) s m args below meth c D A H0 6 Q [[(g, .inr (11, [.int gth, .ref gw, .ref gB, .ref gK, .ref gU, .ref gS, .int gbe, .int gwo, .long gta, .ref gn, .int glr, .int glc, .int gti, .int ggo, .ref gR, .int gch, .ref gD]))], [(gw, .inr (10, [.int gwr, .int gwk, .int gwc, .int gwg, .int gws, .ref gwa, .ref gwb]))], [(gwa, .inl (cy 3, gwan, .inr (.inr (.inr (.inr (yad gwad))))))], xg_rows gwad gwan (cy 1) gwak gwaG, [(gwb, .inl (cy 3, gwbn, .inr (.inr (.inr (.inr (yad gwbd))))))], xg_rows gwbd gwbn (cy 1) gwbk gwbG, [(gB, .inl (cy 4, 5, .inr (.inr (.inr (.inr (yad gBd))))))], xg_rows gBd 5 (cy 2) 5 gBG, [(gK, .inl (cy 4, 5, .inr (.inr (.inr (.inr (yad gKd))))))], xg_rows gKd 5 (cy 2) 5 gKG, [(gU, .inl (cy 3, 5, .inr (.inr (.inr (.inr (yad gUd))))))], xg_rows gUd 5 (cy 1) 5 gUG, [(gn, .inr (10, [.int gnr, .int gnk, .int gnc, .int gng, .int gns, .ref gna, .ref gnb]))], [(gna, .inl (cy 3, gnan, .inr (.inr (.inr (.inr (yad gnad))))))], xg_rows gnad gnan (cy 1) gnak gnaG, [(gnb, .inl (cy 3, gnbn, .inr (.inr (.inr (.inr (yad gnbd))))))], xg_rows gnbd gnbn (cy 1) gnbk gnbG, [(q_5, .inl (cy 1, x_1.2, .inl x_1.1))]] (0 + 30) (0 + 60) [(0, .ref g), (2, .long z_17.1), (4, .int s_8.2)] 161 [] := by
          intro z_17 e_17; subst e_17; replace ho_8 := ybr_l ho_8
          refine xr_iinc (j := 2) (v := s_8.2 + 1) (n := 164) C [(4, .int (s_8.2 + 1)), (0, .ref g), (2, .long z_17.1)] dd_X9_isWhole_5.2.2.2.2.2.2.2.2.2.2.2.2.2.1 rfl rfl (by decide) rfl rfl ?_
          refine xr_goto (tgt := 98) C dd_X9_isWhole_5.2.2.2.2.2.2.2.2.2.2.2.2.2.2.1 rfl ?_
          refine xr_lv (lv' := [(0, .ref g), (2, .long z_17.1), (4, .int (s_8.2 + 1))]) [1, 2, 0] rfl ?_
          exact hk_8 (z_17.1, s_8.2 + 1) (Option.some.inj ho_8).symm
        refine y_loop (P := fun (s_17 : Int64 × Int32) => X p l e (yR 6 30 60) s m args below meth c D A H0 6 Q [[(g, .inr (11, [.int gth, .ref gw, .ref gB, .ref gK, .ref gU, .ref gS, .int gbe, .int gwo, .long gta, .ref gn, .int glr, .int glc, .int gti, .int ggo, .ref gR, .int gch, .ref gD]))], [(gw, .inr (10, [.int gwr, .int gwk, .int gwc, .int gwg, .int gws, .ref gwa, .ref gwb]))], [(gwa, .inl (cy 3, gwan, .inr (.inr (.inr (.inr (yad gwad))))))], xg_rows gwad gwan (cy 1) gwak gwaG, [(gwb, .inl (cy 3, gwbn, .inr (.inr (.inr (.inr (yad gwbd))))))], xg_rows gwbd gwbn (cy 1) gwbk gwbG, [(gB, .inl (cy 4, 5, .inr (.inr (.inr (.inr (yad gBd))))))], xg_rows gBd 5 (cy 2) 5 gBG, [(gK, .inl (cy 4, 5, .inr (.inr (.inr (.inr (yad gKd))))))], xg_rows gKd 5 (cy 2) 5 gKG, [(gU, .inl (cy 3, 5, .inr (.inr (.inr (.inr (yad gUd))))))], xg_rows gUd 5 (cy 1) 5 gUG, [(gn, .inr (10, [.int gnr, .int gnk, .int gnc, .int gng, .int gns, .ref gna, .ref gnb]))], [(gna, .inl (cy 3, gnan, .inr (.inr (.inr (.inr (yad gnad))))))], xg_rows gnad gnan (cy 1) gnak gnaG, [(gnb, .inl (cy 3, gnbn, .inr (.inr (.inr (.inr (yad gnbd))))))], xg_rows gnbd gnbn (cy 1) gnbk gnbG, [(q_5, .inl (cy 1, x_1.2, .inl x_1.1))]] (0 + 30) (0 + 60) [(0, .ref g), (2, .long s_17.1), (4, .int s_8.2), (5, .int s_17.2)] 107 []) ?_ _ (s_8.1, 0) hb_17
        intro s_17 o_17 ho_17 hk_17 hx_17
        refine xr_iload (n := 109) (j := 3) C dd_X9_isWhole_3.2.2.2.2.2.2.2.2.2.2.2.2.2.2.1 rfl rfl ?_
        refine xr_iconst (n := 110) (v := 5) C dd_X9_isWhole_3.2.2.2.2.2.2.2.2.2.2.2.2.2.2.2.1 rfl rfl ?_
        refine xr_icmp_ge (tgt := 161) (n := 113) C dd_X9_isWhole_4.1 rfl rfl (fun c_18 => ?_) (fun c_18 => ?_)
        · replace ho_17 := yf_t c_18 ho_17
          refine xr_lv (lv' := [(0, .ref g), (2, .long s_17.1), (4, .int s_8.2)]) [0, 1, 2] rfl ?_
          have e_19 := hx_17 _ (Option.some.inj ho_17).symm
          exact K_17 (s_17.1, s_17.2) e_19.symm
        · replace ho_17 := yf_f c_18 ho_17
          refine xr_lload_n (n := 114) (j := 1) C dd_X9_isWhole_4.2.1 rfl rfl ?_
          refine xr_aload_n (n := 115) (j := 0) C dd_X9_isWhole_4.2.2.1 rfl rfl ?_
          refine xr_get (n := 118) C 0 rfl rfl 4 (by decide) in_X9 u_1241 rfl (v := .ref gU) rfl dd_X9_isWhole_4.2.2.2.1 rfl ?_
          refine xr_iload (n := 120) (j := 2) C dd_X9_isWhole_4.2.2.2.2.1 rfl rfl ?_
          obtain ⟨g_20, ho_17⟩ := yf_g ho_17
          refine xr_aald (n := 121) C 10 0 rfl 3 rfl rfl g_20 rfl dd_X9_isWhole_4.2.2.2.2.2.1 rfl ?_
          refine xr_iload (n := 123) (j := 3) C dd_X9_isWhole_4.2.2.2.2.2.2.1 rfl rfl ?_
          obtain ⟨g_21, ho_17⟩ := yf_g ho_17
          refine xr_ialdg (n := 124) C 11 rfl s_8.2.toNatClampNeg (ylt g_20) g_21 dd_X9_isWhole_4.2.2.2.2.2.2.2.1 rfl ?_
          refine xr_i2l (n := 125) C dd_X9_isWhole_4.2.2.2.2.2.2.2.2.1 rfl ?_
          refine xr_ladd (n := 126) C dd_X9_isWhole_4.2.2.2.2.2.2.2.2.2.1 rfl ?_
          obtain ⟨y_22, ey_22, ho_17⟩ := yf_l ho_17
          refine xr_topL ey_22 ?_
          refine xr_lstore_n (n := 127) C [(2, .long y_22), (0, .ref g), (4, .int s_8.2), (5, .int s_17.2)] dd_X9_isWhole_4.2.2.2.2.2.2.2.2.2.2.1 (by decide) rfl rfl ?_
          refine xr_aload_n (n := 128) (j := 1) C dd_X9_isWhole_4.2.2.2.2.2.2.2.2.2.2.2.1 rfl rfl ?_
          refine xr_get (n := 131) C 0 rfl rfl 3 (by decide) in_X9 u_1240 rfl (v := .ref gK) rfl dd_X9_isWhole_4.2.2.2.2.2.2.2.2.2.2.2.2.1 rfl ?_
          refine xr_iload (n := 133) (j := 2) C dd_X9_isWhole_4.2.2.2.2.2.2.2.2.2.2.2.2.2.1 rfl rfl ?_
          obtain ⟨g_23, ho_17⟩ := yf_g ho_17
          refine xr_aald (n := 134) C 8 0 rfl 4 rfl rfl g_23 rfl dd_X9_isWhole_4.2.2.2.2.2.2.2.2.2.2.2.2.2.2.1 rfl ?_
          refine xr_iload (n := 136) (j := 3) C dd_X9_isWhole_4.2.2.2.2.2.2.2.2.2.2.2.2.2.2.2.1 rfl rfl ?_
          obtain ⟨g_24, ho_17⟩ := yf_g ho_17
          refine xr_zaldg (n := 137) C 9 rfl s_8.2.toNatClampNeg (ylt g_23) g_24 dd_X9_isWhole_5.1 rfl ?_
          refine xr_if_eq (tgt := 155) (n := 140) C dd_X9_isWhole_5.2.1 rfl rfl (fun c_25 => ?_) (fun c_25 => ?_)
          · replace ho_17 := yf_t c_25 ho_17
            refine xr_iinc (j := 3) (v := s_17.2 + 1) (n := 158) C [(5, .int (s_17.2 + 1)), (2, .long y_22), (0, .ref g), (4, .int s_8.2)] dd_X9_isWhole_5.2.2.2.2.2.2.2.2.2.2.2.1 rfl rfl (by decide) rfl rfl ?_
            refine xr_goto (tgt := 107) C dd_X9_isWhole_5.2.2.2.2.2.2.2.2.2.2.2.2.1 rfl ?_
            refine xr_lv (lv' := [(0, .ref g), (2, .long y_22), (4, .int s_8.2), (5, .int (s_17.2 + 1))]) [2, 1, 3, 0] rfl ?_
            exact hk_17 (y_22, s_17.2 + 1) (Option.some.inj ho_17).symm
          · replace ho_17 := yf_f c_25 ho_17
            refine xr_aload_n (n := 141) (j := 1) C dd_X9_isWhole_5.2.2.1 rfl rfl ?_
            refine xr_get (n := 144) C 0 rfl rfl 2 (by decide) in_X9 u_1239 rfl (v := .ref gB) rfl dd_X9_isWhole_5.2.2.2.1 rfl ?_
            refine xr_iload (n := 146) (j := 2) C dd_X9_isWhole_5.2.2.2.2.1 rfl rfl ?_
            obtain ⟨g_26, ho_17⟩ := yf_g ho_17
            refine xr_aald (n := 147) C 6 0 rfl 4 rfl rfl g_26 rfl dd_X9_isWhole_5.2.2.2.2.2.1 rfl ?_
            refine xr_iload (n := 149) (j := 3) C dd_X9_isWhole_5.2.2.2.2.2.2.1 rfl rfl ?_
            obtain ⟨g_27, ho_17⟩ := yf_g ho_17
            refine xr_zaldg (n := 150) C 7 rfl s_8.2.toNatClampNeg (ylt g_26) g_27 dd_X9_isWhole_5.2.2.2.2.2.2.2.1 rfl ?_
            refine xr_if_ne (tgt := 155) (n := 153) C dd_X9_isWhole_5.2.2.2.2.2.2.2.2.1 rfl rfl (fun c_28 => ?_) (fun c_28 => ?_)
            · replace ho_17 := yf_f c_28 ho_17
              refine xr_iinc (j := 3) (v := s_17.2 + 1) (n := 158) C [(5, .int (s_17.2 + 1)), (2, .long y_22), (0, .ref g), (4, .int s_8.2)] dd_X9_isWhole_5.2.2.2.2.2.2.2.2.2.2.2.1 rfl rfl (by decide) rfl rfl ?_
              refine xr_goto (tgt := 107) C dd_X9_isWhole_5.2.2.2.2.2.2.2.2.2.2.2.2.1 rfl ?_
              refine xr_lv (lv' := [(0, .ref g), (2, .long y_22), (4, .int s_8.2), (5, .int (s_17.2 + 1))]) [2, 1, 3, 0] rfl ?_
              exact hk_17 (y_22, s_17.2 + 1) (Option.some.inj ho_17).symm
            · replace ho_17 := yf_t c_28 ho_17
              refine xr_iconst (n := 154) (v := 0) C dd_X9_isWhole_5.2.2.2.2.2.2.2.2.2.1 rfl rfl ?_
              have e_29 := hx_17 _ (Option.some.inj ho_17).symm
              subst e_29
              replace ho_8 := ybr_r ho_8
              have e_30 := hx_8 _ (Option.some.inj ho_8).symm
              subst e_30
              replace hR := ybr_r hR
              obtain rfl := Option.some.inj hR
              refine xr_perm C 18 [0, 1, 2, 3, 4, 5, 6, 7, 8, 9, 10, 11, 12, 13, 14, 15, 16] [17] [[(g, .inr (11, [.int gth, .ref gw, .ref gB, .ref gK, .ref gU, .ref gS, .int gbe, .int gwo, .long gta, .ref gn, .int glr, .int glc, .int gti, .int ggo, .ref gR, .int gch, .ref gD]))], [(gw, .inr (10, [.int gwr, .int gwk, .int gwc, .int gwg, .int gws, .ref gwa, .ref gwb]))], [(gwa, .inl (cy 3, gwan, .inr (.inr (.inr (.inr (yad gwad))))))], xg_rows gwad gwan (cy 1) gwak gwaG, [(gwb, .inl (cy 3, gwbn, .inr (.inr (.inr (.inr (yad gwbd))))))], xg_rows gwbd gwbn (cy 1) gwbk gwbG, [(gB, .inl (cy 4, 5, .inr (.inr (.inr (.inr (yad gBd))))))], xg_rows gBd 5 (cy 2) 5 gBG, [(gK, .inl (cy 4, 5, .inr (.inr (.inr (.inr (yad gKd))))))], xg_rows gKd 5 (cy 2) 5 gKG, [(gU, .inl (cy 3, 5, .inr (.inr (.inr (.inr (yad gUd))))))], xg_rows gUd 5 (cy 1) 5 gUG, [(gn, .inr (10, [.int gnr, .int gnk, .int gnc, .int gng, .int gns, .ref gna, .ref gnb]))], [(gna, .inl (cy 3, gnan, .inr (.inr (.inr (.inr (yad gnad))))))], xg_rows gnad gnan (cy 1) gnak gnaG, [(gnb, .inl (cy 3, gnbn, .inr (.inr (.inr (.inr (yad gnbd))))))], xg_rows gnbd gnbn (cy 1) gnbk gnbG] rfl (by decide +kernel) rfl ?_
              exact ret 0 (by decide) ⟨rfl, rfl⟩ (Nat.le_of_ble_eq_true rfl) (Nat.le_of_ble_eq_true rfl) dd_X9_isWhole_5.2.2.2.2.2.2.2.2.2.2.1
    · replace hR := yf_f c_7 hR
      refine xr_aload_n (n := 79) (j := 0) C dd_X9_isWhole_2.2.2.2.2.2.2.2.2.2.2.1 rfl rfl ?_
      refine xr_aload_n (n := 80) (j := 1) C dd_X9_isWhole_2.2.2.2.2.2.2.2.2.2.2.2.1 rfl rfl ?_
      refine xr_iconst (n := 81) (v := 0) C dd_X9_isWhole_2.2.2.2.2.2.2.2.2.2.2.2.2.1 rfl rfl ?_
      obtain ⟨g_31, hR⟩ := yf_g hR
      refine xr_iald (n := 82) C 17 0 rfl rfl g_31 dd_X9_isWhole_2.2.2.2.2.2.2.2.2.2.2.2.2.2.1 rfl ?_
      refine xr_aload_n (n := 83) (j := 1) C dd_X9_isWhole_2.2.2.2.2.2.2.2.2.2.2.2.2.2.2.1 rfl rfl ?_
      refine xr_iconst (n := 84) (v := 1) C dd_X9_isWhole_2.2.2.2.2.2.2.2.2.2.2.2.2.2.2.2.1 rfl rfl ?_
      obtain ⟨g_32, hR⟩ := yf_g hR
      refine xr_iald (n := 85) C 17 0 rfl rfl g_32 dd_X9_isWhole_3.1 rfl ?_
      obtain ⟨x_33, hx_33, hR⟩ := yf_b hR
      refine xr_callVp (n := 88) (As := [.int (x_1.1 (0 : Int32).toNatClampNeg), .int (x_1.1 (1 : Int32).toNatClampNeg)]) (rest := []) C (kX9_crosses_r l D cy (g := g) (gth := gth) (gw := gw) (gB := gB) (gK := gK) (gU := gU) (gS := gS) (gbe := gbe) (gwo := gwo) (gta := gta) (gn := gn) (glr := glr) (glc := glc) (gti := gti) (ggo := ggo) (gR := gR) (gch := gch) (gD := gD) (gKd := gKd) (gKG := gKG) (i1 := x_1.1 (0 : Int32).toNatClampNeg) (i2 := x_1.1 (1 : Int32).toNatClampNeg) hx_33) mX9_crosses u_1373 u_1375 u_33 0 rfl rfl 18 [0, 8, 9] [1, 2, 3, 4, 5, 6, 7, 10, 11, 12, 13, 14, 15, 16, 17] rfl (by decide +kernel) rfl rfl rfl rfl (Nat.le_of_ble_eq_true rfl) (Nat.le_of_ble_eq_true rfl) (Nat.le_of_ble_eq_true rfl) (Nat.le_of_ble_eq_true rfl) (Nat.le_of_ble_eq_true rfl) dd_X9_isWhole_3.2.1 rfl (fun _ _ hp => hp.2) (fun v_34 hp_36 => ?_)
      obtain ⟨rfl, -⟩ := hp_36
      refine xr_st (st' := [.int x_33]) rfl ?_
      refine xr_if_eq (tgt := 93) (n := 91) C dd_X9_isWhole_3.2.2.1 rfl rfl (fun c_37 => ?_) (fun c_37 => ?_)
      · replace hR := yf_t c_37 hR
        refine xr_lconst (n := 94) (v := 0) C dd_X9_isWhole_3.2.2.2.2.2.1 rfl rfl ?_
        refine xr_lstore_n (n := 95) C [(2, .long 0), (0, .ref g), (1, .ref q_5)] dd_X9_isWhole_3.2.2.2.2.2.2.1 (by decide) rfl rfl ?_
        refine xr_iconst (n := 96) (v := 0) C dd_X9_isWhole_3.2.2.2.2.2.2.2.1 rfl rfl ?_
        refine xr_istore (n := 98) C [(4, .int 0), (2, .long 0), (0, .ref g), (1, .ref q_5)] dd_X9_isWhole_3.2.2.2.2.2.2.2.2.1 (by decide) rfl rfl ?_
        refine xr_lv (lv' := [(0, .ref g), (2, .long 0), (4, .int 0)]) [2, 1, 0] rfl ?_
        obtain ⟨b_38, hb_38, hR⟩ := yf_b hR
        have K_38 : ∀ z_38, b_38 = .inl z_38 → X p l e (yR 6 30 60) s m args below meth c D A H0 6 Q [[(g, .inr (11, [.int gth, .ref gw, .ref gB, .ref gK, .ref gU, .ref gS, .int gbe, .int gwo, .long gta, .ref gn, .int glr, .int glc, .int gti, .int ggo, .ref gR, .int gch, .ref gD]))], [(gw, .inr (10, [.int gwr, .int gwk, .int gwc, .int gwg, .int gws, .ref gwa, .ref gwb]))], [(gwa, .inl (cy 3, gwan, .inr (.inr (.inr (.inr (yad gwad))))))], xg_rows gwad gwan (cy 1) gwak gwaG, [(gwb, .inl (cy 3, gwbn, .inr (.inr (.inr (.inr (yad gwbd))))))], xg_rows gwbd gwbn (cy 1) gwbk gwbG, [(gB, .inl (cy 4, 5, .inr (.inr (.inr (.inr (yad gBd))))))], xg_rows gBd 5 (cy 2) 5 gBG, [(gK, .inl (cy 4, 5, .inr (.inr (.inr (.inr (yad gKd))))))], xg_rows gKd 5 (cy 2) 5 gKG, [(gU, .inl (cy 3, 5, .inr (.inr (.inr (.inr (yad gUd))))))], xg_rows gUd 5 (cy 1) 5 gUG, [(gn, .inr (10, [.int gnr, .int gnk, .int gnc, .int gng, .int gns, .ref gna, .ref gnb]))], [(gna, .inl (cy 3, gnan, .inr (.inr (.inr (.inr (yad gnad))))))], xg_rows gnad gnan (cy 1) gnak gnaG, [(gnb, .inl (cy 3, gnbn, .inr (.inr (.inr (.inr (yad gnbd))))))], xg_rows gnbd gnbn (cy 1) gnbk gnbG, [(q_5, .inl (cy 1, x_1.2, .inl x_1.1))]] (0 + 30) (0 + 60) [(0, .ref g), (2, .long z_38.1)] 167 [] := by
          intro z_38 e_38; subst e_38; replace hR := ybr_l hR
          refine xr_lload_n (n := 168) (j := 1) C dd_X9_isWhole_5.2.2.2.2.2.2.2.2.2.2.2.2.2.2.2.1 rfl rfl ?_
          refine xr_aload_n (n := 169) (j := 0) C dd_X9_isWhole_6.1 rfl rfl ?_
          refine xr_get (n := 172) C 0 rfl rfl 8 (by decide) in_X9 u_1245 rfl (v := .long gta) rfl dd_X9_isWhole_6.2.1 rfl ?_
          refine xr_lcmp (n := 173) C dd_X9_isWhole_6.2.2.1 rfl ?_
          refine xr_if_ne (tgt := 194) (n := 176) C dd_X9_isWhole_6.2.2.2.1 rfl rfl (fun c_39 => ?_) (fun c_39 => ?_)
          · replace hR := yf_f c_39 hR
            refine xr_iconst (n := 195) (v := 0) C dd_X9_isWhole_6.2.2.2.2.2.2.2.2.2.2.2.2.1 rfl rfl ?_
            obtain rfl := Option.some.inj hR
            refine xr_perm C 18 [0, 1, 2, 3, 4, 5, 6, 7, 8, 9, 10, 11, 12, 13, 14, 15, 16] [17] [[(g, .inr (11, [.int gth, .ref gw, .ref gB, .ref gK, .ref gU, .ref gS, .int gbe, .int gwo, .long gta, .ref gn, .int glr, .int glc, .int gti, .int ggo, .ref gR, .int gch, .ref gD]))], [(gw, .inr (10, [.int gwr, .int gwk, .int gwc, .int gwg, .int gws, .ref gwa, .ref gwb]))], [(gwa, .inl (cy 3, gwan, .inr (.inr (.inr (.inr (yad gwad))))))], xg_rows gwad gwan (cy 1) gwak gwaG, [(gwb, .inl (cy 3, gwbn, .inr (.inr (.inr (.inr (yad gwbd))))))], xg_rows gwbd gwbn (cy 1) gwbk gwbG, [(gB, .inl (cy 4, 5, .inr (.inr (.inr (.inr (yad gBd))))))], xg_rows gBd 5 (cy 2) 5 gBG, [(gK, .inl (cy 4, 5, .inr (.inr (.inr (.inr (yad gKd))))))], xg_rows gKd 5 (cy 2) 5 gKG, [(gU, .inl (cy 3, 5, .inr (.inr (.inr (.inr (yad gUd))))))], xg_rows gUd 5 (cy 1) 5 gUG, [(gn, .inr (10, [.int gnr, .int gnk, .int gnc, .int gng, .int gns, .ref gna, .ref gnb]))], [(gna, .inl (cy 3, gnan, .inr (.inr (.inr (.inr (yad gnad))))))], xg_rows gnad gnan (cy 1) gnak gnaG, [(gnb, .inl (cy 3, gnbn, .inr (.inr (.inr (.inr (yad gnbd))))))], xg_rows gnbd gnbn (cy 1) gnbk gnbG] rfl (by decide +kernel) rfl ?_
            exact ret 0 (by decide) ⟨rfl, rfl⟩ (Nat.le_of_ble_eq_true rfl) (Nat.le_of_ble_eq_true rfl) dd_X9_isWhole_6.2.2.2.2.2.2.2.2.2.2.2.2.2.1
          · replace hR := yf_t c_39 hR
            refine xr_aload_n (n := 177) (j := 0) C dd_X9_isWhole_6.2.2.2.2.1 rfl rfl ?_
            refine xr_get (n := 180) C 0 rfl rfl 9 (by decide) in_X9 u_1246 rfl (v := .ref gn) rfl dd_X9_isWhole_6.2.2.2.2.2.1 rfl ?_
            refine xr_ifnull (n := 183) C dd_X9_isWhole_6.2.2.2.2.2.2.1 rfl ?_
            refine xr_aload_n (n := 184) (j := 0) C dd_X9_isWhole_6.2.2.2.2.2.2.2.1 rfl rfl ?_
            obtain ⟨x_40, hx_40, hR⟩ := yf_b hR
            refine xr_callVp (n := 187) (As := []) (rest := []) C (kX9_rest_r l D cy (g := g) (gth := gth) (gw := gw) (gB := gB) (gK := gK) (gU := gU) (gS := gS) (gbe := gbe) (gwo := gwo) (gta := gta) (gn := gn) (glr := glr) (glc := glc) (gti := gti) (ggo := ggo) (gR := gR) (gch := gch) (gD := gD) (gnr := gnr) (gnk := gnk) (gnc := gnc) (gng := gng) (gns := gns) (gna := gna) (gnb := gnb) (gnad := gnad) (gnan := gnan) (gnak := gnak) (gnaG := gnaG) (gnbd := gnbd) (gnbn := gnbn) (gnbk := gnbk) (gnbG := gnbG) hx_40) mX9_left_ u_1418 u_1420 u_35 0 rfl rfl 18 [0, 12, 13, 14, 15, 16] [1, 2, 3, 4, 5, 6, 7, 8, 9, 10, 11, 17] rfl (by decide +kernel) rfl rfl rfl rfl (Nat.le_of_ble_eq_true rfl) (Nat.le_of_ble_eq_true rfl) (Nat.le_of_ble_eq_true rfl) (Nat.le_of_ble_eq_true rfl) (Nat.le_of_ble_eq_true rfl) dd_X9_isWhole_6.2.2.2.2.2.2.2.2.1 rfl (fun _ _ hp => hp.2) (fun v_41 hp_43 => ?_)
            obtain ⟨rfl, -⟩ := hp_43
            refine xr_st (st' := [.int x_40]) rfl ?_
            refine xr_if_le (tgt := 194) (n := 190) C dd_X9_isWhole_6.2.2.2.2.2.2.2.2.2.1 rfl rfl (fun c_44 => ?_) (fun c_44 => ?_)
            · replace hR := yf_t c_44 hR
              refine xr_iconst (n := 195) (v := 0) C dd_X9_isWhole_6.2.2.2.2.2.2.2.2.2.2.2.2.1 rfl rfl ?_
              obtain rfl := Option.some.inj hR
              refine xr_perm C 18 [0, 1, 2, 3, 4, 5, 6, 7, 8, 9, 10, 11, 12, 13, 14, 15, 16] [17] [[(g, .inr (11, [.int gth, .ref gw, .ref gB, .ref gK, .ref gU, .ref gS, .int gbe, .int gwo, .long gta, .ref gn, .int glr, .int glc, .int gti, .int ggo, .ref gR, .int gch, .ref gD]))], [(gw, .inr (10, [.int gwr, .int gwk, .int gwc, .int gwg, .int gws, .ref gwa, .ref gwb]))], [(gwa, .inl (cy 3, gwan, .inr (.inr (.inr (.inr (yad gwad))))))], xg_rows gwad gwan (cy 1) gwak gwaG, [(gwb, .inl (cy 3, gwbn, .inr (.inr (.inr (.inr (yad gwbd))))))], xg_rows gwbd gwbn (cy 1) gwbk gwbG, [(gB, .inl (cy 4, 5, .inr (.inr (.inr (.inr (yad gBd))))))], xg_rows gBd 5 (cy 2) 5 gBG, [(gK, .inl (cy 4, 5, .inr (.inr (.inr (.inr (yad gKd))))))], xg_rows gKd 5 (cy 2) 5 gKG, [(gU, .inl (cy 3, 5, .inr (.inr (.inr (.inr (yad gUd))))))], xg_rows gUd 5 (cy 1) 5 gUG, [(gn, .inr (10, [.int gnr, .int gnk, .int gnc, .int gng, .int gns, .ref gna, .ref gnb]))], [(gna, .inl (cy 3, gnan, .inr (.inr (.inr (.inr (yad gnad))))))], xg_rows gnad gnan (cy 1) gnak gnaG, [(gnb, .inl (cy 3, gnbn, .inr (.inr (.inr (.inr (yad gnbd))))))], xg_rows gnbd gnbn (cy 1) gnbk gnbG] rfl (by decide +kernel) rfl ?_
              exact ret 0 (by decide) ⟨rfl, rfl⟩ (Nat.le_of_ble_eq_true rfl) (Nat.le_of_ble_eq_true rfl) dd_X9_isWhole_6.2.2.2.2.2.2.2.2.2.2.2.2.2.1
            · replace hR := yf_f c_44 hR
              refine xr_iconst (n := 191) (v := 1) C dd_X9_isWhole_6.2.2.2.2.2.2.2.2.2.2.1 rfl rfl ?_
              refine xr_goto (tgt := 195) C dd_X9_isWhole_6.2.2.2.2.2.2.2.2.2.2.2.1 rfl ?_
              obtain rfl := Option.some.inj hR
              refine xr_perm C 18 [0, 1, 2, 3, 4, 5, 6, 7, 8, 9, 10, 11, 12, 13, 14, 15, 16] [17] [[(g, .inr (11, [.int gth, .ref gw, .ref gB, .ref gK, .ref gU, .ref gS, .int gbe, .int gwo, .long gta, .ref gn, .int glr, .int glc, .int gti, .int ggo, .ref gR, .int gch, .ref gD]))], [(gw, .inr (10, [.int gwr, .int gwk, .int gwc, .int gwg, .int gws, .ref gwa, .ref gwb]))], [(gwa, .inl (cy 3, gwan, .inr (.inr (.inr (.inr (yad gwad))))))], xg_rows gwad gwan (cy 1) gwak gwaG, [(gwb, .inl (cy 3, gwbn, .inr (.inr (.inr (.inr (yad gwbd))))))], xg_rows gwbd gwbn (cy 1) gwbk gwbG, [(gB, .inl (cy 4, 5, .inr (.inr (.inr (.inr (yad gBd))))))], xg_rows gBd 5 (cy 2) 5 gBG, [(gK, .inl (cy 4, 5, .inr (.inr (.inr (.inr (yad gKd))))))], xg_rows gKd 5 (cy 2) 5 gKG, [(gU, .inl (cy 3, 5, .inr (.inr (.inr (.inr (yad gUd))))))], xg_rows gUd 5 (cy 1) 5 gUG, [(gn, .inr (10, [.int gnr, .int gnk, .int gnc, .int gng, .int gns, .ref gna, .ref gnb]))], [(gna, .inl (cy 3, gnan, .inr (.inr (.inr (.inr (yad gnad))))))], xg_rows gnad gnan (cy 1) gnak gnaG, [(gnb, .inl (cy 3, gnbn, .inr (.inr (.inr (.inr (yad gnbd))))))], xg_rows gnbd gnbn (cy 1) gnbk gnbG] rfl (by decide +kernel) rfl ?_
              exact ret 1 (by decide) ⟨rfl, rfl⟩ (Nat.le_of_ble_eq_true rfl) (Nat.le_of_ble_eq_true rfl) dd_X9_isWhole_6.2.2.2.2.2.2.2.2.2.2.2.2.2.1
        refine y_loop (P := fun (s_38 : Int64 × Int32) => X p l e (yR 6 30 60) s m args below meth c D A H0 6 Q [[(g, .inr (11, [.int gth, .ref gw, .ref gB, .ref gK, .ref gU, .ref gS, .int gbe, .int gwo, .long gta, .ref gn, .int glr, .int glc, .int gti, .int ggo, .ref gR, .int gch, .ref gD]))], [(gw, .inr (10, [.int gwr, .int gwk, .int gwc, .int gwg, .int gws, .ref gwa, .ref gwb]))], [(gwa, .inl (cy 3, gwan, .inr (.inr (.inr (.inr (yad gwad))))))], xg_rows gwad gwan (cy 1) gwak gwaG, [(gwb, .inl (cy 3, gwbn, .inr (.inr (.inr (.inr (yad gwbd))))))], xg_rows gwbd gwbn (cy 1) gwbk gwbG, [(gB, .inl (cy 4, 5, .inr (.inr (.inr (.inr (yad gBd))))))], xg_rows gBd 5 (cy 2) 5 gBG, [(gK, .inl (cy 4, 5, .inr (.inr (.inr (.inr (yad gKd))))))], xg_rows gKd 5 (cy 2) 5 gKG, [(gU, .inl (cy 3, 5, .inr (.inr (.inr (.inr (yad gUd))))))], xg_rows gUd 5 (cy 1) 5 gUG, [(gn, .inr (10, [.int gnr, .int gnk, .int gnc, .int gng, .int gns, .ref gna, .ref gnb]))], [(gna, .inl (cy 3, gnan, .inr (.inr (.inr (.inr (yad gnad))))))], xg_rows gnad gnan (cy 1) gnak gnaG, [(gnb, .inl (cy 3, gnbn, .inr (.inr (.inr (.inr (yad gnbd))))))], xg_rows gnbd gnbn (cy 1) gnbk gnbG, [(q_5, .inl (cy 1, x_1.2, .inl x_1.1))]] (0 + 30) (0 + 60) [(0, .ref g), (2, .long s_38.1), (4, .int s_38.2)] 98 []) ?_ _ (0, 0) hb_38
        intro s_38 o_38 ho_38 hk_38 hx_38
        refine xr_iload (n := 100) (j := 2) C dd_X9_isWhole_3.2.2.2.2.2.2.2.2.2.1 rfl rfl ?_
        refine xr_iconst (n := 101) (v := 5) C dd_X9_isWhole_3.2.2.2.2.2.2.2.2.2.2.1 rfl rfl ?_
        refine xr_icmp_ge (tgt := 167) (n := 104) C dd_X9_isWhole_3.2.2.2.2.2.2.2.2.2.2.2.1 rfl rfl (fun c_45 => ?_) (fun c_45 => ?_)
        · replace ho_38 := yf_t c_45 ho_38
          refine xr_lv (lv' := [(0, .ref g), (2, .long s_38.1)]) [0, 1] rfl ?_
          have e_46 := hx_38 _ (Option.some.inj ho_38).symm
          exact K_38 (s_38.1, s_38.2) e_46.symm
        · replace ho_38 := yf_f c_45 ho_38
          refine xr_iconst (n := 105) (v := 0) C dd_X9_isWhole_3.2.2.2.2.2.2.2.2.2.2.2.2.1 rfl rfl ?_
          refine xr_istore (n := 107) C [(5, .int 0), (0, .ref g), (2, .long s_38.1), (4, .int s_38.2)] dd_X9_isWhole_3.2.2.2.2.2.2.2.2.2.2.2.2.2.1 (by decide) rfl rfl ?_
          refine xr_lv (lv' := [(0, .ref g), (2, .long s_38.1), (4, .int s_38.2), (5, .int 0)]) [1, 2, 3, 0] rfl ?_
          obtain ⟨b_47, hb_47, ho_38⟩ := yf_b ho_38
          have K_47 : ∀ z_47, b_47 = .inl z_47 → X p l e (yR 6 30 60) s m args below meth c D A H0 6 Q [[(g, .inr (11, [.int gth, .ref gw, .ref gB, .ref gK, .ref gU, .ref gS, .int gbe, .int gwo, .long gta, .ref gn, .int glr, .int glc, .int gti, .int ggo, .ref gR, .int gch, .ref gD]))], [(gw, .inr (10, [.int gwr, .int gwk, .int gwc, .int gwg, .int gws, .ref gwa, .ref gwb]))], [(gwa, .inl (cy 3, gwan, .inr (.inr (.inr (.inr (yad gwad))))))], xg_rows gwad gwan (cy 1) gwak gwaG, [(gwb, .inl (cy 3, gwbn, .inr (.inr (.inr (.inr (yad gwbd))))))], xg_rows gwbd gwbn (cy 1) gwbk gwbG, [(gB, .inl (cy 4, 5, .inr (.inr (.inr (.inr (yad gBd))))))], xg_rows gBd 5 (cy 2) 5 gBG, [(gK, .inl (cy 4, 5, .inr (.inr (.inr (.inr (yad gKd))))))], xg_rows gKd 5 (cy 2) 5 gKG, [(gU, .inl (cy 3, 5, .inr (.inr (.inr (.inr (yad gUd))))))], xg_rows gUd 5 (cy 1) 5 gUG, [(gn, .inr (10, [.int gnr, .int gnk, .int gnc, .int gng, .int gns, .ref gna, .ref gnb]))], [(gna, .inl (cy 3, gnan, .inr (.inr (.inr (.inr (yad gnad))))))], xg_rows gnad gnan (cy 1) gnak gnaG, [(gnb, .inl (cy 3, gnbn, .inr (.inr (.inr (.inr (yad gnbd))))))], xg_rows gnbd gnbn (cy 1) gnbk gnbG, [(q_5, .inl (cy 1, x_1.2, .inl x_1.1))]] (0 + 30) (0 + 60) [(0, .ref g), (2, .long z_47.1), (4, .int s_38.2)] 161 [] := by
            intro z_47 e_47; subst e_47; replace ho_38 := ybr_l ho_38
            refine xr_iinc (j := 2) (v := s_38.2 + 1) (n := 164) C [(4, .int (s_38.2 + 1)), (0, .ref g), (2, .long z_47.1)] dd_X9_isWhole_5.2.2.2.2.2.2.2.2.2.2.2.2.2.1 rfl rfl (by decide) rfl rfl ?_
            refine xr_goto (tgt := 98) C dd_X9_isWhole_5.2.2.2.2.2.2.2.2.2.2.2.2.2.2.1 rfl ?_
            refine xr_lv (lv' := [(0, .ref g), (2, .long z_47.1), (4, .int (s_38.2 + 1))]) [1, 2, 0] rfl ?_
            exact hk_38 (z_47.1, s_38.2 + 1) (Option.some.inj ho_38).symm
          refine y_loop (P := fun (s_47 : Int64 × Int32) => X p l e (yR 6 30 60) s m args below meth c D A H0 6 Q [[(g, .inr (11, [.int gth, .ref gw, .ref gB, .ref gK, .ref gU, .ref gS, .int gbe, .int gwo, .long gta, .ref gn, .int glr, .int glc, .int gti, .int ggo, .ref gR, .int gch, .ref gD]))], [(gw, .inr (10, [.int gwr, .int gwk, .int gwc, .int gwg, .int gws, .ref gwa, .ref gwb]))], [(gwa, .inl (cy 3, gwan, .inr (.inr (.inr (.inr (yad gwad))))))], xg_rows gwad gwan (cy 1) gwak gwaG, [(gwb, .inl (cy 3, gwbn, .inr (.inr (.inr (.inr (yad gwbd))))))], xg_rows gwbd gwbn (cy 1) gwbk gwbG, [(gB, .inl (cy 4, 5, .inr (.inr (.inr (.inr (yad gBd))))))], xg_rows gBd 5 (cy 2) 5 gBG, [(gK, .inl (cy 4, 5, .inr (.inr (.inr (.inr (yad gKd))))))], xg_rows gKd 5 (cy 2) 5 gKG, [(gU, .inl (cy 3, 5, .inr (.inr (.inr (.inr (yad gUd))))))], xg_rows gUd 5 (cy 1) 5 gUG, [(gn, .inr (10, [.int gnr, .int gnk, .int gnc, .int gng, .int gns, .ref gna, .ref gnb]))], [(gna, .inl (cy 3, gnan, .inr (.inr (.inr (.inr (yad gnad))))))], xg_rows gnad gnan (cy 1) gnak gnaG, [(gnb, .inl (cy 3, gnbn, .inr (.inr (.inr (.inr (yad gnbd))))))], xg_rows gnbd gnbn (cy 1) gnbk gnbG, [(q_5, .inl (cy 1, x_1.2, .inl x_1.1))]] (0 + 30) (0 + 60) [(0, .ref g), (2, .long s_47.1), (4, .int s_38.2), (5, .int s_47.2)] 107 []) ?_ _ (s_38.1, 0) hb_47
          intro s_47 o_47 ho_47 hk_47 hx_47
          refine xr_iload (n := 109) (j := 3) C dd_X9_isWhole_3.2.2.2.2.2.2.2.2.2.2.2.2.2.2.1 rfl rfl ?_
          refine xr_iconst (n := 110) (v := 5) C dd_X9_isWhole_3.2.2.2.2.2.2.2.2.2.2.2.2.2.2.2.1 rfl rfl ?_
          refine xr_icmp_ge (tgt := 161) (n := 113) C dd_X9_isWhole_4.1 rfl rfl (fun c_48 => ?_) (fun c_48 => ?_)
          · replace ho_47 := yf_t c_48 ho_47
            refine xr_lv (lv' := [(0, .ref g), (2, .long s_47.1), (4, .int s_38.2)]) [0, 1, 2] rfl ?_
            have e_49 := hx_47 _ (Option.some.inj ho_47).symm
            exact K_47 (s_47.1, s_47.2) e_49.symm
          · replace ho_47 := yf_f c_48 ho_47
            refine xr_lload_n (n := 114) (j := 1) C dd_X9_isWhole_4.2.1 rfl rfl ?_
            refine xr_aload_n (n := 115) (j := 0) C dd_X9_isWhole_4.2.2.1 rfl rfl ?_
            refine xr_get (n := 118) C 0 rfl rfl 4 (by decide) in_X9 u_1241 rfl (v := .ref gU) rfl dd_X9_isWhole_4.2.2.2.1 rfl ?_
            refine xr_iload (n := 120) (j := 2) C dd_X9_isWhole_4.2.2.2.2.1 rfl rfl ?_
            obtain ⟨g_50, ho_47⟩ := yf_g ho_47
            refine xr_aald (n := 121) C 10 0 rfl 3 rfl rfl g_50 rfl dd_X9_isWhole_4.2.2.2.2.2.1 rfl ?_
            refine xr_iload (n := 123) (j := 3) C dd_X9_isWhole_4.2.2.2.2.2.2.1 rfl rfl ?_
            obtain ⟨g_51, ho_47⟩ := yf_g ho_47
            refine xr_ialdg (n := 124) C 11 rfl s_38.2.toNatClampNeg (ylt g_50) g_51 dd_X9_isWhole_4.2.2.2.2.2.2.2.1 rfl ?_
            refine xr_i2l (n := 125) C dd_X9_isWhole_4.2.2.2.2.2.2.2.2.1 rfl ?_
            refine xr_ladd (n := 126) C dd_X9_isWhole_4.2.2.2.2.2.2.2.2.2.1 rfl ?_
            obtain ⟨y_52, ey_52, ho_47⟩ := yf_l ho_47
            refine xr_topL ey_52 ?_
            refine xr_lstore_n (n := 127) C [(2, .long y_52), (0, .ref g), (4, .int s_38.2), (5, .int s_47.2)] dd_X9_isWhole_4.2.2.2.2.2.2.2.2.2.2.1 (by decide) rfl rfl ?_
            refine xr_aload_n (n := 128) (j := 1) C dd_X9_isWhole_4.2.2.2.2.2.2.2.2.2.2.2.1 rfl rfl ?_
            refine xr_get (n := 131) C 0 rfl rfl 3 (by decide) in_X9 u_1240 rfl (v := .ref gK) rfl dd_X9_isWhole_4.2.2.2.2.2.2.2.2.2.2.2.2.1 rfl ?_
            refine xr_iload (n := 133) (j := 2) C dd_X9_isWhole_4.2.2.2.2.2.2.2.2.2.2.2.2.2.1 rfl rfl ?_
            obtain ⟨g_53, ho_47⟩ := yf_g ho_47
            refine xr_aald (n := 134) C 8 0 rfl 4 rfl rfl g_53 rfl dd_X9_isWhole_4.2.2.2.2.2.2.2.2.2.2.2.2.2.2.1 rfl ?_
            refine xr_iload (n := 136) (j := 3) C dd_X9_isWhole_4.2.2.2.2.2.2.2.2.2.2.2.2.2.2.2.1 rfl rfl ?_
            obtain ⟨g_54, ho_47⟩ := yf_g ho_47
            refine xr_zaldg (n := 137) C 9 rfl s_38.2.toNatClampNeg (ylt g_53) g_54 dd_X9_isWhole_5.1 rfl ?_
            refine xr_if_eq (tgt := 155) (n := 140) C dd_X9_isWhole_5.2.1 rfl rfl (fun c_55 => ?_) (fun c_55 => ?_)
            · replace ho_47 := yf_t c_55 ho_47
              refine xr_iinc (j := 3) (v := s_47.2 + 1) (n := 158) C [(5, .int (s_47.2 + 1)), (2, .long y_52), (0, .ref g), (4, .int s_38.2)] dd_X9_isWhole_5.2.2.2.2.2.2.2.2.2.2.2.1 rfl rfl (by decide) rfl rfl ?_
              refine xr_goto (tgt := 107) C dd_X9_isWhole_5.2.2.2.2.2.2.2.2.2.2.2.2.1 rfl ?_
              refine xr_lv (lv' := [(0, .ref g), (2, .long y_52), (4, .int s_38.2), (5, .int (s_47.2 + 1))]) [2, 1, 3, 0] rfl ?_
              exact hk_47 (y_52, s_47.2 + 1) (Option.some.inj ho_47).symm
            · replace ho_47 := yf_f c_55 ho_47
              refine xr_aload_n (n := 141) (j := 1) C dd_X9_isWhole_5.2.2.1 rfl rfl ?_
              refine xr_get (n := 144) C 0 rfl rfl 2 (by decide) in_X9 u_1239 rfl (v := .ref gB) rfl dd_X9_isWhole_5.2.2.2.1 rfl ?_
              refine xr_iload (n := 146) (j := 2) C dd_X9_isWhole_5.2.2.2.2.1 rfl rfl ?_
              obtain ⟨g_56, ho_47⟩ := yf_g ho_47
              refine xr_aald (n := 147) C 6 0 rfl 4 rfl rfl g_56 rfl dd_X9_isWhole_5.2.2.2.2.2.1 rfl ?_
              refine xr_iload (n := 149) (j := 3) C dd_X9_isWhole_5.2.2.2.2.2.2.1 rfl rfl ?_
              obtain ⟨g_57, ho_47⟩ := yf_g ho_47
              refine xr_zaldg (n := 150) C 7 rfl s_38.2.toNatClampNeg (ylt g_56) g_57 dd_X9_isWhole_5.2.2.2.2.2.2.2.1 rfl ?_
              refine xr_if_ne (tgt := 155) (n := 153) C dd_X9_isWhole_5.2.2.2.2.2.2.2.2.1 rfl rfl (fun c_58 => ?_) (fun c_58 => ?_)
              · replace ho_47 := yf_f c_58 ho_47
                refine xr_iinc (j := 3) (v := s_47.2 + 1) (n := 158) C [(5, .int (s_47.2 + 1)), (2, .long y_52), (0, .ref g), (4, .int s_38.2)] dd_X9_isWhole_5.2.2.2.2.2.2.2.2.2.2.2.1 rfl rfl (by decide) rfl rfl ?_
                refine xr_goto (tgt := 107) C dd_X9_isWhole_5.2.2.2.2.2.2.2.2.2.2.2.2.1 rfl ?_
                refine xr_lv (lv' := [(0, .ref g), (2, .long y_52), (4, .int s_38.2), (5, .int (s_47.2 + 1))]) [2, 1, 3, 0] rfl ?_
                exact hk_47 (y_52, s_47.2 + 1) (Option.some.inj ho_47).symm
              · replace ho_47 := yf_t c_58 ho_47
                refine xr_iconst (n := 154) (v := 0) C dd_X9_isWhole_5.2.2.2.2.2.2.2.2.2.1 rfl rfl ?_
                have e_59 := hx_47 _ (Option.some.inj ho_47).symm
                subst e_59
                replace ho_38 := ybr_r ho_38
                have e_60 := hx_38 _ (Option.some.inj ho_38).symm
                subst e_60
                replace hR := ybr_r hR
                obtain rfl := Option.some.inj hR
                refine xr_perm C 18 [0, 1, 2, 3, 4, 5, 6, 7, 8, 9, 10, 11, 12, 13, 14, 15, 16] [17] [[(g, .inr (11, [.int gth, .ref gw, .ref gB, .ref gK, .ref gU, .ref gS, .int gbe, .int gwo, .long gta, .ref gn, .int glr, .int glc, .int gti, .int ggo, .ref gR, .int gch, .ref gD]))], [(gw, .inr (10, [.int gwr, .int gwk, .int gwc, .int gwg, .int gws, .ref gwa, .ref gwb]))], [(gwa, .inl (cy 3, gwan, .inr (.inr (.inr (.inr (yad gwad))))))], xg_rows gwad gwan (cy 1) gwak gwaG, [(gwb, .inl (cy 3, gwbn, .inr (.inr (.inr (.inr (yad gwbd))))))], xg_rows gwbd gwbn (cy 1) gwbk gwbG, [(gB, .inl (cy 4, 5, .inr (.inr (.inr (.inr (yad gBd))))))], xg_rows gBd 5 (cy 2) 5 gBG, [(gK, .inl (cy 4, 5, .inr (.inr (.inr (.inr (yad gKd))))))], xg_rows gKd 5 (cy 2) 5 gKG, [(gU, .inl (cy 3, 5, .inr (.inr (.inr (.inr (yad gUd))))))], xg_rows gUd 5 (cy 1) 5 gUG, [(gn, .inr (10, [.int gnr, .int gnk, .int gnc, .int gng, .int gns, .ref gna, .ref gnb]))], [(gna, .inl (cy 3, gnan, .inr (.inr (.inr (.inr (yad gnad))))))], xg_rows gnad gnan (cy 1) gnak gnaG, [(gnb, .inl (cy 3, gnbn, .inr (.inr (.inr (.inr (yad gnbd))))))], xg_rows gnbd gnbn (cy 1) gnbk gnbG] rfl (by decide +kernel) rfl ?_
                exact ret 0 (by decide) ⟨rfl, rfl⟩ (Nat.le_of_ble_eq_true rfl) (Nat.le_of_ble_eq_true rfl) dd_X9_isWhole_5.2.2.2.2.2.2.2.2.2.2.1
      · replace hR := yf_f c_37 hR
        refine xr_iconst (n := 92) (v := 0) C dd_X9_isWhole_3.2.2.2.1 rfl rfl ?_
        obtain rfl := Option.some.inj hR
        refine xr_perm C 18 [0, 1, 2, 3, 4, 5, 6, 7, 8, 9, 10, 11, 12, 13, 14, 15, 16] [17] [[(g, .inr (11, [.int gth, .ref gw, .ref gB, .ref gK, .ref gU, .ref gS, .int gbe, .int gwo, .long gta, .ref gn, .int glr, .int glc, .int gti, .int ggo, .ref gR, .int gch, .ref gD]))], [(gw, .inr (10, [.int gwr, .int gwk, .int gwc, .int gwg, .int gws, .ref gwa, .ref gwb]))], [(gwa, .inl (cy 3, gwan, .inr (.inr (.inr (.inr (yad gwad))))))], xg_rows gwad gwan (cy 1) gwak gwaG, [(gwb, .inl (cy 3, gwbn, .inr (.inr (.inr (.inr (yad gwbd))))))], xg_rows gwbd gwbn (cy 1) gwbk gwbG, [(gB, .inl (cy 4, 5, .inr (.inr (.inr (.inr (yad gBd))))))], xg_rows gBd 5 (cy 2) 5 gBG, [(gK, .inl (cy 4, 5, .inr (.inr (.inr (.inr (yad gKd))))))], xg_rows gKd 5 (cy 2) 5 gKG, [(gU, .inl (cy 3, 5, .inr (.inr (.inr (.inr (yad gUd))))))], xg_rows gUd 5 (cy 1) 5 gUG, [(gn, .inr (10, [.int gnr, .int gnk, .int gnc, .int gng, .int gns, .ref gna, .ref gnb]))], [(gna, .inl (cy 3, gnan, .inr (.inr (.inr (.inr (yad gnad))))))], xg_rows gnad gnan (cy 1) gnak gnaG, [(gnb, .inl (cy 3, gnbn, .inr (.inr (.inr (.inr (yad gnbd))))))], xg_rows gnbd gnbn (cy 1) gnbk gnbG] rfl (by decide +kernel) rfl ?_
        exact ret 0 (by decide) ⟨rfl, rfl⟩ (Nat.le_of_ble_eq_true rfl) (Nat.le_of_ble_eq_true rfl) dd_X9_isWhole_3.2.2.2.2.1
  refine y_loop (P := fun (s_6 : Int32) => X p l e (yR 6 30 60) s m args below meth c D A H0 6 Q [[(g, .inr (11, [.int gth, .ref gw, .ref gB, .ref gK, .ref gU, .ref gS, .int gbe, .int gwo, .long gta, .ref gn, .int glr, .int glc, .int gti, .int ggo, .ref gR, .int gch, .ref gD]))], [(gw, .inr (10, [.int gwr, .int gwk, .int gwc, .int gwg, .int gws, .ref gwa, .ref gwb]))], [(gwa, .inl (cy 3, gwan, .inr (.inr (.inr (.inr (yad gwad))))))], xg_rows gwad gwan (cy 1) gwak gwaG, [(gwb, .inl (cy 3, gwbn, .inr (.inr (.inr (.inr (yad gwbd))))))], xg_rows gwbd gwbn (cy 1) gwbk gwbG, [(gB, .inl (cy 4, 5, .inr (.inr (.inr (.inr (yad gBd))))))], xg_rows gBd 5 (cy 2) 5 gBG, [(gK, .inl (cy 4, 5, .inr (.inr (.inr (.inr (yad gKd))))))], xg_rows gKd 5 (cy 2) 5 gKG, [(gU, .inl (cy 3, 5, .inr (.inr (.inr (.inr (yad gUd))))))], xg_rows gUd 5 (cy 1) 5 gUG, [(gn, .inr (10, [.int gnr, .int gnk, .int gnc, .int gng, .int gns, .ref gna, .ref gnb]))], [(gna, .inl (cy 3, gnan, .inr (.inr (.inr (.inr (yad gnad))))))], xg_rows gnad gnan (cy 1) gnak gnaG, [(gnb, .inl (cy 3, gnbn, .inr (.inr (.inr (.inr (yad gnbd))))))], xg_rows gnbd gnbn (cy 1) gnbk gnbG, [(q_5, .inl (cy 1, x_1.2, .inl x_1.1))]] (0 + 30) (0 + 60) [(0, .ref g), (1, .ref q_5), (2, .int s_6)] 7 []) ?_ _ 1 hb_6
  intro s_6 o_6 ho_6 hk_6 hx_6
  refine xr_iload_n (n := 8) (j := 2) C dd_X9_isWhole_0.2.2.2.2.2.1 rfl rfl ?_
  refine xr_bipush (n := 10) (v := 32) C dd_X9_isWhole_0.2.2.2.2.2.2.1 rfl rfl ?_
  refine xr_icmp_ge (tgt := 73) (n := 13) C dd_X9_isWhole_0.2.2.2.2.2.2.2.1 rfl rfl (fun c_61 => ?_) (fun c_61 => ?_)
  · replace ho_6 := yf_t c_61 ho_6
    refine xr_lv (lv' := [(0, .ref g), (1, .ref q_5)]) [0, 1] rfl ?_
    have e_62 := hx_6 _ (Option.some.inj ho_6).symm
    exact K_6 s_6 e_62.symm
  · replace ho_6 := yf_f c_61 ho_6
    refine xr_aload_n (n := 14) (j := 1) C dd_X9_isWhole_0.2.2.2.2.2.2.2.2.1 rfl rfl ?_
    refine xr_alen (n := 15) C 17 0 rfl 1 rfl rfl dd_X9_isWhole_0.2.2.2.2.2.2.2.2.2.1 rfl ?_
    refine xr_if_le (tgt := 73) (n := 18) C dd_X9_isWhole_0.2.2.2.2.2.2.2.2.2.2.1 rfl rfl (fun c_63 => ?_) (fun c_63 => ?_)
    · replace ho_6 := yf_t c_63 ho_6
      refine xr_lv (lv' := [(0, .ref g), (1, .ref q_5)]) [0, 1] rfl ?_
      have e_64 := hx_6 _ (Option.some.inj ho_6).symm
      exact K_6 s_6 e_64.symm
    · replace ho_6 := yf_f c_63 ho_6
      refine xr_iconst (n := 19) (v := 1) C dd_X9_isWhole_0.2.2.2.2.2.2.2.2.2.2.2.1 rfl rfl ?_
      refine xr_istore_n (n := 20) C [(3, .int 1), (0, .ref g), (1, .ref q_5), (2, .int s_6)] dd_X9_isWhole_0.2.2.2.2.2.2.2.2.2.2.2.2.1 (by decide) rfl rfl ?_
      refine xr_lv (lv' := [(0, .ref g), (1, .ref q_5), (2, .int s_6), (3, .int 1)]) [1, 2, 3, 0] rfl ?_
      obtain ⟨b_65, hb_65, ho_6⟩ := yf_b ho_6
      have K_65 : ∀ z_65, b_65 = .inl z_65 → X p l e (yR 6 30 60) s m args below meth c D A H0 6 Q [[(g, .inr (11, [.int gth, .ref gw, .ref gB, .ref gK, .ref gU, .ref gS, .int gbe, .int gwo, .long gta, .ref gn, .int glr, .int glc, .int gti, .int ggo, .ref gR, .int gch, .ref gD]))], [(gw, .inr (10, [.int gwr, .int gwk, .int gwc, .int gwg, .int gws, .ref gwa, .ref gwb]))], [(gwa, .inl (cy 3, gwan, .inr (.inr (.inr (.inr (yad gwad))))))], xg_rows gwad gwan (cy 1) gwak gwaG, [(gwb, .inl (cy 3, gwbn, .inr (.inr (.inr (.inr (yad gwbd))))))], xg_rows gwbd gwbn (cy 1) gwbk gwbG, [(gB, .inl (cy 4, 5, .inr (.inr (.inr (.inr (yad gBd))))))], xg_rows gBd 5 (cy 2) 5 gBG, [(gK, .inl (cy 4, 5, .inr (.inr (.inr (.inr (yad gKd))))))], xg_rows gKd 5 (cy 2) 5 gKG, [(gU, .inl (cy 3, 5, .inr (.inr (.inr (.inr (yad gUd))))))], xg_rows gUd 5 (cy 1) 5 gUG, [(gn, .inr (10, [.int gnr, .int gnk, .int gnc, .int gng, .int gns, .ref gna, .ref gnb]))], [(gna, .inl (cy 3, gnan, .inr (.inr (.inr (.inr (yad gnad))))))], xg_rows gnad gnan (cy 1) gnak gnaG, [(gnb, .inl (cy 3, gnbn, .inr (.inr (.inr (.inr (yad gnbd))))))], xg_rows gnbd gnbn (cy 1) gnbk gnbG, [(q_5, .inl (cy 1, x_1.2, .inl x_1.1))]] (0 + 30) (0 + 60) [(0, .ref g), (1, .ref q_5), (2, .int s_6)] 67 [] := by
        intro z_65 e_65; subst e_65; replace ho_6 := ybr_l ho_6
        refine xr_iinc (j := 2) (v := s_6 + 1) (n := 70) C [(2, .int (s_6 + 1)), (0, .ref g), (1, .ref q_5)] dd_X9_isWhole_2.2.2.2.2.2.1 rfl rfl (by decide) rfl rfl ?_
        refine xr_goto (tgt := 7) C dd_X9_isWhole_2.2.2.2.2.2.2.1 rfl ?_
        refine xr_lv (lv' := [(0, .ref g), (1, .ref q_5), (2, .int (s_6 + 1))]) [1, 2, 0] rfl ?_
        exact hk_6 (s_6 + 1) (Option.some.inj ho_6).symm
      refine y_loop (P := fun (s_65 : Int32) => X p l e (yR 6 30 60) s m args below meth c D A H0 6 Q [[(g, .inr (11, [.int gth, .ref gw, .ref gB, .ref gK, .ref gU, .ref gS, .int gbe, .int gwo, .long gta, .ref gn, .int glr, .int glc, .int gti, .int ggo, .ref gR, .int gch, .ref gD]))], [(gw, .inr (10, [.int gwr, .int gwk, .int gwc, .int gwg, .int gws, .ref gwa, .ref gwb]))], [(gwa, .inl (cy 3, gwan, .inr (.inr (.inr (.inr (yad gwad))))))], xg_rows gwad gwan (cy 1) gwak gwaG, [(gwb, .inl (cy 3, gwbn, .inr (.inr (.inr (.inr (yad gwbd))))))], xg_rows gwbd gwbn (cy 1) gwbk gwbG, [(gB, .inl (cy 4, 5, .inr (.inr (.inr (.inr (yad gBd))))))], xg_rows gBd 5 (cy 2) 5 gBG, [(gK, .inl (cy 4, 5, .inr (.inr (.inr (.inr (yad gKd))))))], xg_rows gKd 5 (cy 2) 5 gKG, [(gU, .inl (cy 3, 5, .inr (.inr (.inr (.inr (yad gUd))))))], xg_rows gUd 5 (cy 1) 5 gUG, [(gn, .inr (10, [.int gnr, .int gnk, .int gnc, .int gng, .int gns, .ref gna, .ref gnb]))], [(gna, .inl (cy 3, gnan, .inr (.inr (.inr (.inr (yad gnad))))))], xg_rows gnad gnan (cy 1) gnak gnaG, [(gnb, .inl (cy 3, gnbn, .inr (.inr (.inr (.inr (yad gnbd))))))], xg_rows gnbd gnbn (cy 1) gnbk gnbG, [(q_5, .inl (cy 1, x_1.2, .inl x_1.1))]] (0 + 30) (0 + 60) [(0, .ref g), (1, .ref q_5), (2, .int s_6), (3, .int s_65)] 20 []) ?_ _ 1 hb_65
      intro s_65 o_65 ho_65 hk_65 hx_65
      refine xr_iload_n (n := 21) (j := 3) C dd_X9_isWhole_0.2.2.2.2.2.2.2.2.2.2.2.2.2.1 rfl rfl ?_
      refine xr_bipush (n := 23) (v := 32) C dd_X9_isWhole_0.2.2.2.2.2.2.2.2.2.2.2.2.2.2.1 rfl rfl ?_
      refine xr_icmp_ge (tgt := 67) (n := 26) C dd_X9_isWhole_0.2.2.2.2.2.2.2.2.2.2.2.2.2.2.2.1 rfl rfl (fun c_66 => ?_) (fun c_66 => ?_)
      · replace ho_65 := yf_t c_66 ho_65
        refine xr_lv (lv' := [(0, .ref g), (1, .ref q_5), (2, .int s_6)]) [0, 1, 2] rfl ?_
        have e_67 := hx_65 _ (Option.some.inj ho_65).symm
        exact K_65 s_65 e_67.symm
      · replace ho_65 := yf_f c_66 ho_65
        refine xr_aload_n (n := 27) (j := 0) C dd_X9_isWhole_1.1 rfl rfl ?_
        refine xr_iload_n (n := 28) (j := 2) C dd_X9_isWhole_1.2.1 rfl rfl ?_
        refine xr_iload_n (n := 29) (j := 3) C dd_X9_isWhole_1.2.2.1 rfl rfl ?_
        obtain ⟨x_68, hx_68, ho_65⟩ := yf_b ho_65
        refine xr_callVp (n := 32) (As := [.int s_6, .int s_65]) (rest := []) C (kX9_crosses_r l D cy (g := g) (gth := gth) (gw := gw) (gB := gB) (gK := gK) (gU := gU) (gS := gS) (gbe := gbe) (gwo := gwo) (gta := gta) (gn := gn) (glr := glr) (glc := glc) (gti := gti) (ggo := ggo) (gR := gR) (gch := gch) (gD := gD) (gKd := gKd) (gKG := gKG) (i1 := s_6) (i2 := s_65) hx_68) mX9_crosses u_1373 u_1375 u_33 0 rfl rfl 18 [0, 8, 9] [1, 2, 3, 4, 5, 6, 7, 10, 11, 12, 13, 14, 15, 16, 17] rfl (by decide +kernel) rfl rfl rfl rfl (Nat.le_of_ble_eq_true rfl) (Nat.le_of_ble_eq_true rfl) (Nat.le_of_ble_eq_true rfl) (Nat.le_of_ble_eq_true rfl) (Nat.le_of_ble_eq_true rfl) dd_X9_isWhole_1.2.2.2.1 rfl (fun _ _ hp => hp.2) (fun v_69 hp_71 => ?_)
        obtain ⟨rfl, -⟩ := hp_71
        refine xr_st (st' := [.int x_68]) rfl ?_
        refine xr_if_ne (tgt := 61) (n := 35) C dd_X9_isWhole_1.2.2.2.2.1 rfl rfl (fun c_72 => ?_) (fun c_72 => ?_)
        · replace ho_65 := yf_f c_72 ho_65
          refine xr_iinc (j := 3) (v := s_65 + 1) (n := 64) C [(3, .int (s_65 + 1)), (0, .ref g), (1, .ref q_5), (2, .int s_6)] dd_X9_isWhole_2.2.2.2.1 rfl rfl (by decide) rfl rfl ?_
          refine xr_goto (tgt := 20) C dd_X9_isWhole_2.2.2.2.2.1 rfl ?_
          refine xr_lv (lv' := [(0, .ref g), (1, .ref q_5), (2, .int s_6), (3, .int (s_65 + 1))]) [1, 2, 3, 0] rfl ?_
          exact hk_65 (s_65 + 1) (Option.some.inj ho_65).symm
        · replace ho_65 := yf_t c_72 ho_65
          refine xr_aload_n (n := 36) (j := 0) C dd_X9_isWhole_1.2.2.2.2.2.1 rfl rfl ?_
          refine xr_get (n := 39) C 0 rfl rfl 1 (by decide) in_X9 u_1238 rfl (v := .ref gw) rfl dd_X9_isWhole_1.2.2.2.2.2.2.1 rfl ?_
          refine xr_iload_n (n := 40) (j := 2) C dd_X9_isWhole_1.2.2.2.2.2.2.2.1 rfl rfl ?_
          refine xr_iload_n (n := 41) (j := 3) C dd_X9_isWhole_1.2.2.2.2.2.2.2.2.1 rfl rfl ?_
          refine xr_aload_n (n := 42) (j := 0) C dd_X9_isWhole_1.2.2.2.2.2.2.2.2.2.1 rfl rfl ?_
          refine xr_get (n := 45) C 0 rfl rfl 1 (by decide) in_X9 u_1238 rfl (v := .ref gw) rfl dd_X9_isWhole_1.2.2.2.2.2.2.2.2.2.2.1 rfl ?_
          obtain ⟨x_73, hx_73, ho_65⟩ := yf_b ho_65
          refine xr_callVp (n := 48) (As := []) (rest := [.int s_65, .int s_6, .ref gw]) C (kX8_steps l D cy (w := gw) (wr := gwr) (wk := gwk) (wc := gwc) (wg := gwg) (ws := gws) (wa := gwa) (wb := gwb) (wad := gwad) (wan := gwan) (wak := gwak) (waG := gwaG) (wbd := gwbd) (wbn := gwbn) (wbk := gwbk) (wbG := gwbG) hx_73) mX8_steps u_1359 u_1360 u_1361 1 rfl rfl 18 [1, 2, 3, 4, 5] [0, 6, 7, 8, 9, 10, 11, 12, 13, 14, 15, 16, 17] rfl (by decide +kernel) rfl rfl rfl rfl (Nat.le_of_ble_eq_true rfl) (Nat.le_of_ble_eq_true rfl) (Nat.le_of_ble_eq_true rfl) (Nat.le_of_ble_eq_true rfl) (Nat.le_of_ble_eq_true rfl) dd_X9_isWhole_1.2.2.2.2.2.2.2.2.2.2.2.1 rfl (fun _ _ hp => hp.2) (fun v_74 hp_76 => ?_)
          obtain ⟨rfl, -⟩ := hp_76
          refine xr_st (st' := [.int x_73, .int s_65, .int s_6, .ref gw]) rfl ?_
          obtain ⟨x_77, hx_77, ho_65⟩ := yf_b ho_65
          refine xr_callSp (n := 51) (As := [.ref gw, .int s_6, .int s_65, .int x_73]) (rest := []) C (kX9_beatsOf l D cy (w := gw) (wr := gwr) (wk := gwk) (wc := gwc) (wg := gwg) (ws := gws) (wa := gwa) (wb := gwb) (i1 := s_6) (i2 := s_65) (i3 := x_73) hx_77) mX9_beatsOf u_1380 u_1381 18 [1] [0, 2, 3, 4, 5, 6, 7, 8, 9, 10, 11, 12, 13, 14, 15, 16, 17] rfl (by decide +kernel) rfl rfl rfl rfl (Nat.le_of_ble_eq_true rfl) (Nat.le_of_ble_eq_true rfl) (Nat.le_of_ble_eq_true rfl) (Nat.le_of_ble_eq_true rfl) (Nat.le_of_ble_eq_true rfl) dd_X9_isWhole_1.2.2.2.2.2.2.2.2.2.2.2.2.1 rfl (fun _ _ hp => hp.2) (fun v_78 hp_80 => ?_)
          obtain ⟨rfl, -⟩ := hp_80
          refine xr_st (st' := [.int x_77]) rfl ?_
          refine xr_aload_n (n := 52) (j := 0) C dd_X9_isWhole_1.2.2.2.2.2.2.2.2.2.2.2.2.2.1 rfl rfl ?_
          refine xr_aload_n (n := 53) (j := 1) C dd_X9_isWhole_1.2.2.2.2.2.2.2.2.2.2.2.2.2.2.1 rfl rfl ?_
          obtain ⟨x_81, hx_81, ho_65⟩ := yf_b ho_65
          refine xr_callVp (n := 56) (As := [.ref q_5]) (rest := [.int x_77]) C (kX9_bestTold0_r l D cy (g := g) (gth := gth) (gw := gw) (gB := gB) (gK := gK) (gU := gU) (gS := gS) (gbe := gbe) (gwo := gwo) (gta := gta) (gn := gn) (glr := glr) (glc := glc) (gti := gti) (ggo := ggo) (gR := gR) (gch := gch) (gD := gD) (gwr := gwr) (gwk := gwk) (gwc := gwc) (gwg := gwg) (gws := gws) (gwa := gwa) (gwb := gwb) (gwad := gwad) (gwan := gwan) (gwak := gwak) (gwaG := gwaG) (gwbd := gwbd) (gwbn := gwbn) (gwbk := gwbk) (gwbG := gwbG) (bq := q_5) (bf := x_1.1) (bn := x_1.2) hx_81) mX9_bestTold0 u_1584 u_1586 u_55 0 rfl rfl 18 [0, 1, 2, 3, 4, 5, 17] [6, 7, 8, 9, 10, 11, 12, 13, 14, 15, 16] rfl (by decide +kernel) rfl rfl rfl rfl (Nat.le_of_ble_eq_true rfl) (Nat.le_of_ble_eq_true rfl) (Nat.le_of_ble_eq_true rfl) (Nat.le_of_ble_eq_true rfl) (Nat.le_of_ble_eq_true rfl) dd_X9_isWhole_1.2.2.2.2.2.2.2.2.2.2.2.2.2.2.2.1 rfl (fun _ _ hp => hp.2) (fun v_82 hp_84 => ?_)
          obtain ⟨rfl, -⟩ := hp_84
          refine xr_st (st' := [.int x_81, .int x_77]) rfl ?_
          refine xr_icmp_ge (tgt := 61) (n := 59) C dd_X9_isWhole_2.1 rfl rfl (fun c_85 => ?_) (fun c_85 => ?_)
          · replace ho_65 := yf_t c_85 ho_65
            refine xr_iinc (j := 3) (v := s_65 + 1) (n := 64) C [(3, .int (s_65 + 1)), (0, .ref g), (1, .ref q_5), (2, .int s_6)] dd_X9_isWhole_2.2.2.2.1 rfl rfl (by decide) rfl rfl ?_
            refine xr_goto (tgt := 20) C dd_X9_isWhole_2.2.2.2.2.1 rfl ?_
            refine xr_lv (lv' := [(0, .ref g), (1, .ref q_5), (2, .int s_6), (3, .int (s_65 + 1))]) [1, 2, 3, 0] rfl ?_
            exact hk_65 (s_65 + 1) (Option.some.inj ho_65).symm
          · replace ho_65 := yf_f c_85 ho_65
            refine xr_iconst (n := 60) (v := 0) C dd_X9_isWhole_2.2.1 rfl rfl ?_
            have e_86 := hx_65 _ (Option.some.inj ho_65).symm
            subst e_86
            replace ho_6 := ybr_r ho_6
            have e_87 := hx_6 _ (Option.some.inj ho_6).symm
            subst e_87
            replace hR := ybr_r hR
            obtain rfl := Option.some.inj hR
            refine xr_perm C 18 [0, 1, 2, 3, 4, 5, 6, 7, 8, 9, 10, 11, 12, 13, 14, 15, 16] [17] [[(g, .inr (11, [.int gth, .ref gw, .ref gB, .ref gK, .ref gU, .ref gS, .int gbe, .int gwo, .long gta, .ref gn, .int glr, .int glc, .int gti, .int ggo, .ref gR, .int gch, .ref gD]))], [(gw, .inr (10, [.int gwr, .int gwk, .int gwc, .int gwg, .int gws, .ref gwa, .ref gwb]))], [(gwa, .inl (cy 3, gwan, .inr (.inr (.inr (.inr (yad gwad))))))], xg_rows gwad gwan (cy 1) gwak gwaG, [(gwb, .inl (cy 3, gwbn, .inr (.inr (.inr (.inr (yad gwbd))))))], xg_rows gwbd gwbn (cy 1) gwbk gwbG, [(gB, .inl (cy 4, 5, .inr (.inr (.inr (.inr (yad gBd))))))], xg_rows gBd 5 (cy 2) 5 gBG, [(gK, .inl (cy 4, 5, .inr (.inr (.inr (.inr (yad gKd))))))], xg_rows gKd 5 (cy 2) 5 gKG, [(gU, .inl (cy 3, 5, .inr (.inr (.inr (.inr (yad gUd))))))], xg_rows gUd 5 (cy 1) 5 gUG, [(gn, .inr (10, [.int gnr, .int gnk, .int gnc, .int gng, .int gns, .ref gna, .ref gnb]))], [(gna, .inl (cy 3, gnan, .inr (.inr (.inr (.inr (yad gnad))))))], xg_rows gnad gnan (cy 1) gnak gnaG, [(gnb, .inl (cy 3, gnbn, .inr (.inr (.inr (.inr (yad gnbd))))))], xg_rows gnbd gnbn (cy 1) gnbk gnbG] rfl (by decide +kernel) rfl ?_
            exact ret 0 (by decide) ⟨rfl, rfl⟩ (Nat.le_of_ble_eq_true rfl) (Nat.le_of_ble_eq_true rfl) dd_X9_isWhole_2.2.2.1
theorem dd_X9_isSound_0 : dk_R cX9_isSound [(0, .aload_n 0, 1), (1, .iconst 0, 1), (2, .putfield 64, 3), (5, .aload_n 0, 1), (6, .invokevirtual 279, 3), (9, .ireturn, 1)] := dk_use _ _ (by decide +kernel)
def fX9_isSound_i (gta : Int64) (gwr : Int32) (gwk : Int32) (gwc : Int32) (gwg : Int32) (gws : Int32) (gwan : Nat) (gwak : Nat) (gwaG : Nat → Nat → Int32) (gwbn : Nat) (gwbk : Nat) (gwbG : Nat → Nat → Int32) (gBG : Nat → Nat → Int32) (gKG : Nat → Nat → Int32) (gUG : Nat → Nat → Int32) : Option (Int32 × Int32) := ((fX9_isWhole_i gta gwr gwk gwc gwg gws gwan gwak gwaG gwbn gwbk gwbG gBG gKG gUG).bind fun x_1 => (if x_1 = 0 ∨ x_1 = 1 then some (x_1, 0) else none))
abbrev hX9_isSound : Cond := .code yX9_isSound cX9_isSound 1 (some .boolean)
theorem mX9_isSound : yM yX9_isSound hX9_isSound 0 := ⟨u_1579, u_64, by decide +kernel, by decide +kernel, by decide +kernel⟩
set_option maxHeartbeats 4000000 in
set_option maxRecDepth 100000 in
theorem kX9_isSound_i (l : Launch) (D : va_G) (cy : Nat → ClassId) (g : Nat) (gth : Int32) (gw : Nat) (gB : Nat) (gK : Nat) (gU : Nat) (gS : Nat) (gbe : Int32) (gwo : Int32) (gta : Int64) (glr : Int32) (glc : Int32) (gti : Int32) (ggo : Int32) (gR : Nat) (gch : Int32) (gD : Nat) (gwr : Int32) (gwk : Int32) (gwc : Int32) (gwg : Int32) (gws : Int32) (gwa : Nat) (gwb : Nat) (gwad : Nat → Nat) (gwan : Nat) (gwak : Nat) (gwaG : Nat → Nat → Int32) (gwbd : Nat → Nat) (gwbn : Nat) (gwbk : Nat) (gwbG : Nat → Nat → Int32) (gBd : Nat → Nat) (gBG : Nat → Nat → Int32) (gKd : Nat → Nat) (gKG : Nat → Nat → Int32) (gUd : Nat → Nat) (gUG : Nat → Nat → Int32) {res : Int32 × Int32} (hR : fX9_isSound_i gta gwr gwk gwc gwg gws gwan gwak gwaG gwbn gwbk gwbG gBG gKG gUG = some res) : YM l D cy yX9_isSound hX9_isSound 7 30 60 [.ref g] [[(g, .inr (11, [.int gth, .ref gw, .ref gB, .ref gK, .ref gU, .ref gS, .int gbe, .int gwo, .long gta, .null, .int glr, .int glc, .int gti, .int ggo, .ref gR, .int gch, .ref gD]))], [(gw, .inr (10, [.int gwr, .int gwk, .int gwc, .int gwg, .int gws, .ref gwa, .ref gwb]))], [(gwa, .inl (cy 3, gwan, .inr (.inr (.inr (.inr (yad gwad))))))], xg_rows gwad gwan (cy 1) gwak gwaG, [(gwb, .inl (cy 3, gwbn, .inr (.inr (.inr (.inr (yad gwbd))))))], xg_rows gwbd gwbn (cy 1) gwbk gwbG, [(gB, .inl (cy 4, 5, .inr (.inr (.inr (.inr (yad gBd))))))], xg_rows gBd 5 (cy 2) 5 gBG, [(gK, .inl (cy 4, 5, .inr (.inr (.inr (.inr (yad gKd))))))], xg_rows gKd 5 (cy 2) 5 gKG, [(gU, .inl (cy 3, 5, .inr (.inr (.inr (.inr (yad gUd))))))], xg_rows gUd 5 (cy 1) 5 gUG] (fun v u => v = some (.int res.1) ∧ u = [[(g, .inr (11, [.int res.2, .ref gw, .ref gB, .ref gK, .ref gU, .ref gS, .int gbe, .int gwo, .long gta, .null, .int glr, .int glc, .int gti, .int ggo, .ref gR, .int gch, .ref gD]))], [(gw, .inr (10, [.int gwr, .int gwk, .int gwc, .int gwg, .int gws, .ref gwa, .ref gwb]))], [(gwa, .inl (cy 3, gwan, .inr (.inr (.inr (.inr (yad gwad))))))], xg_rows gwad gwan (cy 1) gwak gwaG, [(gwb, .inl (cy 3, gwbn, .inr (.inr (.inr (.inr (yad gwbd))))))], xg_rows gwbd gwbn (cy 1) gwbk gwbG, [(gB, .inl (cy 4, 5, .inr (.inr (.inr (.inr (yad gBd))))))], xg_rows gBd 5 (cy 2) 5 gBG, [(gK, .inl (cy 4, 5, .inr (.inr (.inr (.inr (yad gKd))))))], xg_rows gKd 5 (cy 2) 5 gKG, [(gU, .inl (cy 3, 5, .inr (.inr (.inr (.inr (yad gUd))))))], xg_rows gUd 5 (cy 1) 5 gUG]) := by
  unfold fX9_isSound_i at hR
  refine YM.ofZ (cc := cX9_isSound) (maxL := 1) (ret := (some .boolean)) (by decide +kernel) rfl (Nat.le_of_ble_eq_true rfl) [(0, .ref g)] rfl .boolean rfl (fun p e s m args below meth c A H0 Q C hnm ret => ?_)
  refine xr_aload_n (n := 1) (j := 0) C dd_X9_isSound_0.1 rfl rfl ?_
  refine xr_iconst (n := 2) (v := 0) C dd_X9_isSound_0.2.1 rfl rfl ?_
  refine xr_put (n := 5) C 0 rfl rfl 0 (by decide) in_X9 tyX9 tyX9_ok nmX9 u_1237 rfl rfl rfl rfl (Nat.le_of_ble_eq_true rfl) [[(g, .inr (11, [.int 0, .ref gw, .ref gB, .ref gK, .ref gU, .ref gS, .int gbe, .int gwo, .long gta, .null, .int glr, .int glc, .int gti, .int ggo, .ref gR, .int gch, .ref gD]))], [(gw, .inr (10, [.int gwr, .int gwk, .int gwc, .int gwg, .int gws, .ref gwa, .ref gwb]))], [(gwa, .inl (cy 3, gwan, .inr (.inr (.inr (.inr (yad gwad))))))], xg_rows gwad gwan (cy 1) gwak gwaG, [(gwb, .inl (cy 3, gwbn, .inr (.inr (.inr (.inr (yad gwbd))))))], xg_rows gwbd gwbn (cy 1) gwbk gwbG, [(gB, .inl (cy 4, 5, .inr (.inr (.inr (.inr (yad gBd))))))], xg_rows gBd 5 (cy 2) 5 gBG, [(gK, .inl (cy 4, 5, .inr (.inr (.inr (.inr (yad gKd))))))], xg_rows gKd 5 (cy 2) 5 gKG, [(gU, .inl (cy 3, 5, .inr (.inr (.inr (.inr (yad gUd))))))], xg_rows gUd 5 (cy 1) 5 gUG] rfl rfl dd_X9_isSound_0.2.2.1 ?_
  refine xr_aload_n (n := 6) (j := 0) C dd_X9_isSound_0.2.2.2.1 rfl rfl ?_
  obtain ⟨x_1, hx_1, hR⟩ := yf_b hR
  refine xr_callVp (n := 9) (As := []) (rest := []) C (kX9_isWhole_i l D cy (g := g) (gth := 0) (gw := gw) (gB := gB) (gK := gK) (gU := gU) (gS := gS) (gbe := gbe) (gwo := gwo) (gta := gta) (glr := glr) (glc := glc) (gti := gti) (ggo := ggo) (gR := gR) (gch := gch) (gD := gD) (gwr := gwr) (gwk := gwk) (gwc := gwc) (gwg := gwg) (gws := gws) (gwa := gwa) (gwb := gwb) (gwad := gwad) (gwan := gwan) (gwak := gwak) (gwaG := gwaG) (gwbd := gwbd) (gwbn := gwbn) (gwbk := gwbk) (gwbG := gwbG) (gBd := gBd) (gBG := gBG) (gKd := gKd) (gKG := gKG) (gUd := gUd) (gUG := gUG) hx_1) mX9_isWhole u_1580 u_1582 u_54 0 rfl rfl 12 [0, 1, 2, 3, 4, 5, 6, 7, 8, 9, 10, 11] [] rfl (by decide +kernel) rfl rfl rfl rfl (Nat.le_of_ble_eq_true rfl) (Nat.le_of_ble_eq_true rfl) (Nat.le_of_ble_eq_true rfl) (Nat.le_of_ble_eq_true rfl) (Nat.le_of_ble_eq_true rfl) dd_X9_isSound_0.2.2.2.2.1 rfl (fun _ _ hp => hp.2) (fun v_2 hp_4 => ?_)
  obtain ⟨rfl, -⟩ := hp_4
  refine xr_st (st' := [.int x_1]) rfl ?_
  obtain ⟨g_5, hR⟩ := yf_g hR
  obtain rfl := Option.some.inj hR
  exact ret x_1 (ynz_n g_5) ⟨rfl, rfl⟩ (Nat.le_of_ble_eq_true rfl) (Nat.le_of_ble_eq_true rfl) dd_X9_isSound_0.2.2.2.2.2.1
def fX9_isSound_r (gta : Int64) (glr : Int32) (glc : Int32) (gti : Int32) (ggo : Int32) (gwr : Int32) (gwk : Int32) (gwc : Int32) (gwg : Int32) (gws : Int32) (gwan : Nat) (gwak : Nat) (gwaG : Nat → Nat → Int32) (gwbn : Nat) (gwbk : Nat) (gwbG : Nat → Nat → Int32) (gBG : Nat → Nat → Int32) (gKG : Nat → Nat → Int32) (gUG : Nat → Nat → Int32) (gnr : Int32) (gnk : Int32) (gnc : Int32) (gng : Int32) (gns : Int32) (gnan : Nat) (gnak : Nat) (gnaG : Nat → Nat → Int32) (gnbn : Nat) (gnbk : Nat) (gnbG : Nat → Nat → Int32) : Option (Int32 × Int32) := ((fX9_isWhole_r gta glr glc gti ggo gwr gwk gwc gwg gws gwan gwak gwaG gwbn gwbk gwbG gBG gKG gUG gnr gnk gnc gng gns gnan gnak gnaG gnbn gnbk gnbG).bind fun x_1 => (if x_1 = 0 ∨ x_1 = 1 then some (x_1, 0) else none))
set_option maxHeartbeats 4000000 in
set_option maxRecDepth 100000 in
theorem kX9_isSound_r (l : Launch) (D : va_G) (cy : Nat → ClassId) (g : Nat) (gth : Int32) (gw : Nat) (gB : Nat) (gK : Nat) (gU : Nat) (gS : Nat) (gbe : Int32) (gwo : Int32) (gta : Int64) (gn : Nat) (glr : Int32) (glc : Int32) (gti : Int32) (ggo : Int32) (gR : Nat) (gch : Int32) (gD : Nat) (gwr : Int32) (gwk : Int32) (gwc : Int32) (gwg : Int32) (gws : Int32) (gwa : Nat) (gwb : Nat) (gwad : Nat → Nat) (gwan : Nat) (gwak : Nat) (gwaG : Nat → Nat → Int32) (gwbd : Nat → Nat) (gwbn : Nat) (gwbk : Nat) (gwbG : Nat → Nat → Int32) (gBd : Nat → Nat) (gBG : Nat → Nat → Int32) (gKd : Nat → Nat) (gKG : Nat → Nat → Int32) (gUd : Nat → Nat) (gUG : Nat → Nat → Int32) (gnr : Int32) (gnk : Int32) (gnc : Int32) (gng : Int32) (gns : Int32) (gna : Nat) (gnb : Nat) (gnad : Nat → Nat) (gnan : Nat) (gnak : Nat) (gnaG : Nat → Nat → Int32) (gnbd : Nat → Nat) (gnbn : Nat) (gnbk : Nat) (gnbG : Nat → Nat → Int32) {res : Int32 × Int32} (hR : fX9_isSound_r gta glr glc gti ggo gwr gwk gwc gwg gws gwan gwak gwaG gwbn gwbk gwbG gBG gKG gUG gnr gnk gnc gng gns gnan gnak gnaG gnbn gnbk gnbG = some res) : YM l D cy yX9_isSound hX9_isSound 7 30 60 [.ref g] [[(g, .inr (11, [.int gth, .ref gw, .ref gB, .ref gK, .ref gU, .ref gS, .int gbe, .int gwo, .long gta, .ref gn, .int glr, .int glc, .int gti, .int ggo, .ref gR, .int gch, .ref gD]))], [(gw, .inr (10, [.int gwr, .int gwk, .int gwc, .int gwg, .int gws, .ref gwa, .ref gwb]))], [(gwa, .inl (cy 3, gwan, .inr (.inr (.inr (.inr (yad gwad))))))], xg_rows gwad gwan (cy 1) gwak gwaG, [(gwb, .inl (cy 3, gwbn, .inr (.inr (.inr (.inr (yad gwbd))))))], xg_rows gwbd gwbn (cy 1) gwbk gwbG, [(gB, .inl (cy 4, 5, .inr (.inr (.inr (.inr (yad gBd))))))], xg_rows gBd 5 (cy 2) 5 gBG, [(gK, .inl (cy 4, 5, .inr (.inr (.inr (.inr (yad gKd))))))], xg_rows gKd 5 (cy 2) 5 gKG, [(gU, .inl (cy 3, 5, .inr (.inr (.inr (.inr (yad gUd))))))], xg_rows gUd 5 (cy 1) 5 gUG, [(gn, .inr (10, [.int gnr, .int gnk, .int gnc, .int gng, .int gns, .ref gna, .ref gnb]))], [(gna, .inl (cy 3, gnan, .inr (.inr (.inr (.inr (yad gnad))))))], xg_rows gnad gnan (cy 1) gnak gnaG, [(gnb, .inl (cy 3, gnbn, .inr (.inr (.inr (.inr (yad gnbd))))))], xg_rows gnbd gnbn (cy 1) gnbk gnbG] (fun v u => v = some (.int res.1) ∧ u = [[(g, .inr (11, [.int res.2, .ref gw, .ref gB, .ref gK, .ref gU, .ref gS, .int gbe, .int gwo, .long gta, .ref gn, .int glr, .int glc, .int gti, .int ggo, .ref gR, .int gch, .ref gD]))], [(gw, .inr (10, [.int gwr, .int gwk, .int gwc, .int gwg, .int gws, .ref gwa, .ref gwb]))], [(gwa, .inl (cy 3, gwan, .inr (.inr (.inr (.inr (yad gwad))))))], xg_rows gwad gwan (cy 1) gwak gwaG, [(gwb, .inl (cy 3, gwbn, .inr (.inr (.inr (.inr (yad gwbd))))))], xg_rows gwbd gwbn (cy 1) gwbk gwbG, [(gB, .inl (cy 4, 5, .inr (.inr (.inr (.inr (yad gBd))))))], xg_rows gBd 5 (cy 2) 5 gBG, [(gK, .inl (cy 4, 5, .inr (.inr (.inr (.inr (yad gKd))))))], xg_rows gKd 5 (cy 2) 5 gKG, [(gU, .inl (cy 3, 5, .inr (.inr (.inr (.inr (yad gUd))))))], xg_rows gUd 5 (cy 1) 5 gUG, [(gn, .inr (10, [.int gnr, .int gnk, .int gnc, .int gng, .int gns, .ref gna, .ref gnb]))], [(gna, .inl (cy 3, gnan, .inr (.inr (.inr (.inr (yad gnad))))))], xg_rows gnad gnan (cy 1) gnak gnaG, [(gnb, .inl (cy 3, gnbn, .inr (.inr (.inr (.inr (yad gnbd))))))], xg_rows gnbd gnbn (cy 1) gnbk gnbG]) := by
  unfold fX9_isSound_r at hR
  refine YM.ofZ (cc := cX9_isSound) (maxL := 1) (ret := (some .boolean)) (by decide +kernel) rfl (Nat.le_of_ble_eq_true rfl) [(0, .ref g)] rfl .boolean rfl (fun p e s m args below meth c A H0 Q C hnm ret => ?_)
  refine xr_aload_n (n := 1) (j := 0) C dd_X9_isSound_0.1 rfl rfl ?_
  refine xr_iconst (n := 2) (v := 0) C dd_X9_isSound_0.2.1 rfl rfl ?_
  refine xr_put (n := 5) C 0 rfl rfl 0 (by decide) in_X9 tyX9 tyX9_ok nmX9 u_1237 rfl rfl rfl rfl (Nat.le_of_ble_eq_true rfl) [[(g, .inr (11, [.int 0, .ref gw, .ref gB, .ref gK, .ref gU, .ref gS, .int gbe, .int gwo, .long gta, .ref gn, .int glr, .int glc, .int gti, .int ggo, .ref gR, .int gch, .ref gD]))], [(gw, .inr (10, [.int gwr, .int gwk, .int gwc, .int gwg, .int gws, .ref gwa, .ref gwb]))], [(gwa, .inl (cy 3, gwan, .inr (.inr (.inr (.inr (yad gwad))))))], xg_rows gwad gwan (cy 1) gwak gwaG, [(gwb, .inl (cy 3, gwbn, .inr (.inr (.inr (.inr (yad gwbd))))))], xg_rows gwbd gwbn (cy 1) gwbk gwbG, [(gB, .inl (cy 4, 5, .inr (.inr (.inr (.inr (yad gBd))))))], xg_rows gBd 5 (cy 2) 5 gBG, [(gK, .inl (cy 4, 5, .inr (.inr (.inr (.inr (yad gKd))))))], xg_rows gKd 5 (cy 2) 5 gKG, [(gU, .inl (cy 3, 5, .inr (.inr (.inr (.inr (yad gUd))))))], xg_rows gUd 5 (cy 1) 5 gUG, [(gn, .inr (10, [.int gnr, .int gnk, .int gnc, .int gng, .int gns, .ref gna, .ref gnb]))], [(gna, .inl (cy 3, gnan, .inr (.inr (.inr (.inr (yad gnad))))))], xg_rows gnad gnan (cy 1) gnak gnaG, [(gnb, .inl (cy 3, gnbn, .inr (.inr (.inr (.inr (yad gnbd))))))], xg_rows gnbd gnbn (cy 1) gnbk gnbG] rfl rfl dd_X9_isSound_0.2.2.1 ?_
  refine xr_aload_n (n := 6) (j := 0) C dd_X9_isSound_0.2.2.2.1 rfl rfl ?_
  obtain ⟨x_1, hx_1, hR⟩ := yf_b hR
  refine xr_callVp (n := 9) (As := []) (rest := []) C (kX9_isWhole_r l D cy (g := g) (gth := 0) (gw := gw) (gB := gB) (gK := gK) (gU := gU) (gS := gS) (gbe := gbe) (gwo := gwo) (gta := gta) (gn := gn) (glr := glr) (glc := glc) (gti := gti) (ggo := ggo) (gR := gR) (gch := gch) (gD := gD) (gwr := gwr) (gwk := gwk) (gwc := gwc) (gwg := gwg) (gws := gws) (gwa := gwa) (gwb := gwb) (gwad := gwad) (gwan := gwan) (gwak := gwak) (gwaG := gwaG) (gwbd := gwbd) (gwbn := gwbn) (gwbk := gwbk) (gwbG := gwbG) (gBd := gBd) (gBG := gBG) (gKd := gKd) (gKG := gKG) (gUd := gUd) (gUG := gUG) (gnr := gnr) (gnk := gnk) (gnc := gnc) (gng := gng) (gns := gns) (gna := gna) (gnb := gnb) (gnad := gnad) (gnan := gnan) (gnak := gnak) (gnaG := gnaG) (gnbd := gnbd) (gnbn := gnbn) (gnbk := gnbk) (gnbG := gnbG) hx_1) mX9_isWhole u_1580 u_1582 u_54 0 rfl rfl 17 [0, 1, 2, 3, 4, 5, 6, 7, 8, 9, 10, 11, 12, 13, 14, 15, 16] [] rfl (by decide +kernel) rfl rfl rfl rfl (Nat.le_of_ble_eq_true rfl) (Nat.le_of_ble_eq_true rfl) (Nat.le_of_ble_eq_true rfl) (Nat.le_of_ble_eq_true rfl) (Nat.le_of_ble_eq_true rfl) dd_X9_isSound_0.2.2.2.2.1 rfl (fun _ _ hp => hp.2) (fun v_2 hp_4 => ?_)
  obtain ⟨rfl, -⟩ := hp_4
  refine xr_st (st' := [.int x_1]) rfl ?_
  obtain ⟨g_5, hR⟩ := yf_g hR
  obtain rfl := Option.some.inj hR
  exact ret x_1 (ynz_n g_5) ⟨rfl, rfl⟩ (Nat.le_of_ble_eq_true rfl) (Nat.le_of_ble_eq_true rfl) dd_X9_isSound_0.2.2.2.2.2.1
