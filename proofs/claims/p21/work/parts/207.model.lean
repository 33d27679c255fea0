theorem u_1247 : Cond.fieldLink RX9 146 "PulsemeshModel" "layRows" "I" ∈ yU := yu_tables_1_5 231 (by decide +kernel) (by decide +kernel)
theorem u_1429 : Cond.code yX9_h cX9_h 1 (some .int) ∈ yU := yu_tables_1_6 173 (by decide +kernel) (by decide +kernel)
theorem u_1248 : Cond.fieldLink RX9 149 "PulsemeshModel" "layColumns" "I" ∈ yU := yu_tables_1_5 232 (by decide +kernel) (by decide +kernel)
theorem u_1425 : Cond.code yX9_w cX9_w 1 (some .int) ∈ yU := yu_tables_1_6 169 (by decide +kernel) (by decide +kernel)
theorem u_1246 : Cond.fieldLink RX9 137 "PulsemeshModel" "now" "LPulsemeshModel$Work;" ∈ yU := yu_tables_1_5 230 (by decide +kernel) (by decide +kernel)
theorem u_1426 : Cond.methodLink RX9 152 yX9_h ∈ yU := yu_tables_1_6 170 (by decide +kernel) (by decide +kernel)
theorem u_1428 : Cond.instanceMethod yX9_h ∈ yU := yu_tables_1_6 172 (by decide +kernel) (by decide +kernel)
theorem u_38 : Cond.selects RX9 yX9_h yX9_h ∈ yU := yu 38 (by decide +kernel) (by decide +kernel)
theorem u_1249 : Cond.fieldLink RX9 155 "PulsemeshModel" "tile" "I" ∈ yU := yu_tables_1_5 233 (by decide +kernel) (by decide +kernel)
theorem u_1422 : Cond.methodLink RX9 158 yX9_w ∈ yU := yu_tables_1_6 166 (by decide +kernel) (by decide +kernel)
theorem u_1424 : Cond.instanceMethod yX9_w ∈ yU := yu_tables_1_6 168 (by decide +kernel) (by decide +kernel)
theorem u_37 : Cond.selects RX9 yX9_w yX9_w ∈ yU := yu 37 (by decide +kernel) (by decide +kernel)
theorem u_1442 : Cond.code yX9_tileRows cX9_tileRows 1 (some .int) ∈ yU := yu_tables_1_6 186 (by decide +kernel) (by decide +kernel)
theorem u_1446 : Cond.code yX9_tileColumns cX9_tileColumns 1 (some .int) ∈ yU := yu_tables_1_6 190 (by decide +kernel) (by decide +kernel)
theorem u_1439 : Cond.methodLink RX9 161 yX9_tileRows ∈ yU := yu_tables_1_6 183 (by decide +kernel) (by decide +kernel)
theorem u_1441 : Cond.instanceMethod yX9_tileRows ∈ yU := yu_tables_1_6 185 (by decide +kernel) (by decide +kernel)
theorem u_40 : Cond.selects RX9 yX9_tileRows yX9_tileRows ∈ yU := yu 40 (by decide +kernel) (by decide +kernel)
theorem u_1443 : Cond.methodLink RX9 164 yX9_tileColumns ∈ yU := yu_tables_1_6 187 (by decide +kernel) (by decide +kernel)
theorem u_1445 : Cond.instanceMethod yX9_tileColumns ∈ yU := yu_tables_1_6 189 (by decide +kernel) (by decide +kernel)
theorem u_41 : Cond.selects RX9 yX9_tileColumns yX9_tileColumns ∈ yU := yu 41 (by decide +kernel) (by decide +kernel)
theorem u_1355 : Cond.methodLink RX9 120 yX8_steps ∈ yU := yu_tables_1_6 99 (by decide +kernel) (by decide +kernel)
theorem u_1356 : Cond.instanceMethod yX8_steps ∈ yU := yu_tables_1_6 100 (by decide +kernel) (by decide +kernel)
theorem u_1357 : Cond.selects RX8 yX8_steps yX8_steps ∈ yU := yu_tables_1_6 101 (by decide +kernel) (by decide +kernel)
theorem u_1475 : Cond.code yX9_tileBeats cX9_tileBeats 1 (some .int) ∈ yU := yu_tables_1_6 219 (by decide +kernel) (by decide +kernel)
theorem u_1250 : Cond.fieldLink RX9 167 "PulsemeshModel" "gone" "I" ∈ yU := yu_tables_1_5 234 (by decide +kernel) (by decide +kernel)
theorem u_1242 : Cond.fieldLink RX9 35 "PulsemeshModel" "sums" "[[I" ∈ yU := yu_tables_1_5 226 (by decide +kernel) (by decide +kernel)
theorem u_1410 : Cond.methodLink RX9 170 yX8_first ∈ yU := yu_tables_1_6 154 (by decide +kernel) (by decide +kernel)
theorem u_1409 : Cond.code yX9_begin cX9_begin 6 none ∈ yU := yu_tables_1_6 153 (by decide +kernel) (by decide +kernel)
theorem dd_X9_h_0 : dk_R cX9_h [(0, .aload_n 0, 1), (1, .getfield 146, 3), (4, .invokestatic 103, 3), (7, .ireturn, 1)] := dk_use _ _ (by decide +kernel)
def fX9_h (glr : Int32) : Option (Int32) := ((fJ6_bitCount_0f7a4 glr).bind fun x_1 => some x_1)
abbrev hX9_h : Cond := .code yX9_h cX9_h 1 (some .int)
theorem mX9_h : yM yX9_h hX9_h 0 := ⟨u_1429, u_64, by decide +kernel, by decide +kernel, by decide +kernel⟩
set_option maxHeartbeats 4000000 in
set_option maxRecDepth 100000 in
theorem kX9_h (l : Launch) (D : va_G) (cy : Nat → ClassId) (g : Nat) (gth : Int32) (gw : Nat) (gB : Nat) (gK : Nat) (gU : Nat) (gS : Nat) (gbe : Int32) (gwo : Int32) (gta : Int64) (gn : Nat) (glr : Int32) (glc : Int32) (gti : Int32) (ggo : Int32) (gR : Nat) (gch : Int32) (gD : Nat) {res : Int32} (hR : fX9_h glr = some res) : YM l D cy yX9_h hX9_h 2 0 0 [.ref g] [[(g, .inr (11, [.int gth, .ref gw, .ref gB, .ref gK, .ref gU, .ref gS, .int gbe, .int gwo, .long gta, .ref gn, .int glr, .int glc, .int gti, .int ggo, .ref gR, .int gch, .ref gD]))]] (fun v u => v = some (.int res) ∧ u = [[(g, .inr (11, [.int gth, .ref gw, .ref gB, .ref gK, .ref gU, .ref gS, .int gbe, .int gwo, .long gta, .ref gn, .int glr, .int glc, .int gti, .int ggo, .ref gR, .int gch, .ref gD]))]]) := by
  unfold fX9_h at hR
  refine YM.ofI (cc := cX9_h) (maxL := 1) (ret := (some .int)) (by decide +kernel) rfl (Nat.le_of_ble_eq_true rfl) [(0, .ref g)] rfl rfl (fun p e s m args below meth c A H0 Q C hnm ret => ?_)
  refine xr_aload_n (n := 1) (j := 0) C dd_X9_h_0.1 rfl rfl ?_
  refine xr_get (n := 4) C 0 rfl rfl 10 (by decide) in_X9 u_1247 rfl (v := .int glr) rfl dd_X9_h_0.2.1 rfl ?_
  obtain ⟨x_1, hx_1, hR⟩ := yf_b hR
  refine xr_callSp (n := 7) (As := [.int glr]) (rest := []) C (kJ6_bitCount_0f7a4 l D cy (i1 := glr) hx_1) mJ6_bitCount_0f7a4 u_1379 u_349 1 [] [0] rfl (by decide +kernel) rfl rfl rfl rfl (Nat.le_of_ble_eq_true rfl) (Nat.le_of_ble_eq_true rfl) (Nat.le_of_ble_eq_true rfl) (Nat.le_of_ble_eq_true rfl) (Nat.le_of_ble_eq_true rfl) dd_X9_h_0.2.2.1 rfl (fun _ _ hp => hp.2) (fun v_2 hp_4 => ?_)
  obtain ⟨rfl, -⟩ := hp_4
  refine xr_st (st' := [.int x_1]) rfl ?_
  obtain rfl := Option.some.inj hR
  exact ret x_1 ⟨rfl, rfl⟩ (Nat.le_of_ble_eq_true rfl) (Nat.le_of_ble_eq_true rfl) dd_X9_h_0.2.2.2.1
theorem dd_X9_w_0 : dk_R cX9_w [(0, .aload_n 0, 1), (1, .getfield 149, 3), (4, .invokestatic 103, 3), (7, .ireturn, 1)] := dk_use _ _ (by decide +kernel)
def fX9_w (glc : Int32) : Option (Int32) := ((fJ6_bitCount_0f7a4 glc).bind fun x_1 => some x_1)
abbrev hX9_w : Cond := .code yX9_w cX9_w 1 (some .int)
theorem mX9_w : yM yX9_w hX9_w 0 := ⟨u_1425, u_64, by decide +kernel, by decide +kernel, by decide +kernel⟩
set_option maxHeartbeats 4000000 in
set_option maxRecDepth 100000 in
theorem kX9_w (l : Launch) (D : va_G) (cy : Nat → ClassId) (g : Nat) (gth : Int32) (gw : Nat) (gB : Nat) (gK : Nat) (gU : Nat) (gS : Nat) (gbe : Int32) (gwo : Int32) (gta : Int64) (gn : Nat) (glr : Int32) (glc : Int32) (gti : Int32) (ggo : Int32) (gR : Nat) (gch : Int32) (gD : Nat) {res : Int32} (hR : fX9_w glc = some res) : YM l D cy yX9_w hX9_w 2 0 0 [.ref g] [[(g, .inr (11, [.int gth, .ref gw, .ref gB, .ref gK, .ref gU, .ref gS, .int gbe, .int gwo, .long gta, .ref gn, .int glr, .int glc, .int gti, .int ggo, .ref gR, .int gch, .ref gD]))]] (fun v u => v = some (.int res) ∧ u = [[(g, .inr (11, [.int gth, .ref gw, .ref gB, .ref gK, .ref gU, .ref gS, .int gbe, .int gwo, .long gta, .ref gn, .int glr, .int glc, .int gti, .int ggo, .ref gR, .int gch, .ref gD]))]]) := by
  unfold fX9_w at hR
  refine YM.ofI (cc := cX9_w) (maxL := 1) (ret := (some .int)) (by decide +kernel) rfl (Nat.le_of_ble_eq_true rfl) [(0, .ref g)] rfl rfl (fun p e s m args below meth c A H0 Q C hnm ret => ?_)
  refine xr_aload_n (n := 1) (j := 0) C dd_X9_w_0.1 rfl rfl ?_
  refine xr_get (n := 4) C 0 rfl rfl 11 (by decide) in_X9 u_1248 rfl (v := .int glc) rfl dd_X9_w_0.2.1 rfl ?_
  obtain ⟨x_1, hx_1, hR⟩ := yf_b hR
  refine xr_callSp (n := 7) (As := [.int glc]) (rest := []) C (kJ6_bitCount_0f7a4 l D cy (i1 := glc) hx_1) mJ6_bitCount_0f7a4 u_1379 u_349 1 [] [0] rfl (by decide +kernel) rfl rfl rfl rfl (Nat.le_of_ble_eq_true rfl) (Nat.le_of_ble_eq_true rfl) (Nat.le_of_ble_eq_true rfl) (Nat.le_of_ble_eq_true rfl) (Nat.le_of_ble_eq_true rfl) dd_X9_w_0.2.2.1 rfl (fun _ _ hp => hp.2) (fun v_2 hp_4 => ?_)
  obtain ⟨rfl, -⟩ := hp_4
  refine xr_st (st' := [.int x_1]) rfl ?_
  obtain rfl := Option.some.inj hR
  exact ret x_1 ⟨rfl, rfl⟩ (Nat.le_of_ble_eq_true rfl) (Nat.le_of_ble_eq_true rfl) dd_X9_w_0.2.2.2.1
theorem dd_X9_tileRows_0 : dk_R cX9_tileRows [(0, .aload_n 0, 1), (1, .getfield 137, 3), (4, .invokevirtual 106, 3), (7, .aload_n 0, 1), (8, .invokevirtual 152, 3), (11, .aload_n 0, 1), (12, .getfield 155, 3), (15, .aload_n 0, 1), (16, .getfield 137, 3), (19, .invokevirtual 113, 3), (22, .aload_n 0, 1), (23, .invokevirtual 158, 3), (26, .invokestatic 110, 3), (29, .idiv, 1), (30, .invokestatic 116, 3), (33, .ireturn, 1)] := dk_use _ _ (by decide +kernel)
def fX9_tileRows (glr : Int32) (glc : Int32) (gti : Int32) (gnr : Int32) (gnc : Int32) (gns : Int32) : Option (Int32) := ((fX8_rows gnr gns).bind fun x_1 => ((fX9_h glr).bind fun x_5 => ((fX8_columns gnc gns).bind fun x_9 => ((fX9_w glc).bind fun x_13 => ((fX9_tiles x_9 x_13).bind fun x_17 => (if ¬ x_17 = 0 then ((fX9_size x_1 x_5 (gti / x_17)).bind fun x_22 => some x_22) else none))))))
abbrev hX9_tileRows : Cond := .code yX9_tileRows cX9_tileRows 1 (some .int)
theorem mX9_tileRows : yM yX9_tileRows hX9_tileRows 0 := ⟨u_1442, u_64, by decide +kernel, by decide +kernel, by decide +kernel⟩
set_option maxHeartbeats 4000000 in
set_option maxRecDepth 100000 in
theorem kX9_tileRows (l : Launch) (D : va_G) (cy : Nat → ClassId) (g : Nat) (gth : Int32) (gw : Nat) (gB : Nat) (gK : Nat) (gU : Nat) (gS : Nat) (gbe : Int32) (gwo : Int32) (gta : Int64) (gn : Nat) (glr : Int32) (glc : Int32) (gti : Int32) (ggo : Int32) (gR : Nat) (gch : Int32) (gD : Nat) (gnr : Int32) (gnk : Int32) (gnc : Int32) (gng : Int32) (gns : Int32) (gna : Nat) (gnb : Nat) {res : Int32} (hR : fX9_tileRows glr glc gti gnr gnc gns = some res) : YM l D cy yX9_tileRows hX9_tileRows 3 0 0 [.ref g] [[(g, .inr (11, [.int gth, .ref gw, .ref gB, .ref gK, .ref gU, .ref gS, .int gbe, .int gwo, .long gta, .ref gn, .int glr, .int glc, .int gti, .int ggo, .ref gR, .int gch, .ref gD]))], [(gn, .inr (10, [.int gnr, .int gnk, .int gnc, .int gng, .int gns, .ref gna, .ref gnb]))]] (fun v u => v = some (.int res) ∧ u = [[(g, .inr (11, [.int gth, .ref gw, .ref gB, .ref gK, .ref gU, .ref gS, .int gbe, .int gwo, .long gta, .ref gn, .int glr, .int glc, .int gti, .int ggo, .ref gR, .int gch, .ref gD]))], [(gn, .inr (10, [.int gnr, .int gnk, .int gnc, .int gng, .int gns, .ref gna, .ref gnb]))]]) := by
  unfold fX9_tileRows at hR
  refine YM.ofI (cc := cX9_tileRows) (maxL := 1) (ret := (some .int)) (by decide +kernel) rfl (Nat.le_of_ble_eq_true rfl) [(0, .ref g)] rfl rfl (fun p e s m args below meth c A H0 Q C hnm ret => ?_)
  refine xr_aload_n (n := 1) (j := 0) C dd_X9_tileRows_0.1 rfl rfl ?_
  refine xr_get (n := 4) C 0 rfl rfl 9 (by decide) in_X9 u_1246 rfl (v := .ref gn) rfl dd_X9_tileRows_0.2.1 rfl ?_
  obtain ⟨x_1, hx_1, hR⟩ := yf_b hR
  refine xr_callVp (n := 7) (As := []) (rest := []) C (kX8_rows l D cy (w := gn) (wr := gnr) (wk := gnk) (wc := gnc) (wg := gng) (ws := gns) (wa := gna) (wb := gnb) hx_1) mX8_rows u_1380 u_1381 u_1382 1 rfl rfl 2 [1] [0] rfl (by decide +kernel) rfl rfl rfl rfl (Nat.le_of_ble_eq_true rfl) (Nat.le_of_ble_eq_true rfl) (Nat.le_of_ble_eq_true rfl) (Nat.le_of_ble_eq_true rfl) (Nat.le_of_ble_eq_true rfl) dd_X9_tileRows_0.2.2.1 rfl (fun _ _ hp => hp.2) (fun v_2 hp_4 => ?_)
  obtain ⟨rfl, -⟩ := hp_4
  refine xr_st (st' := [.int x_1]) rfl ?_
  refine xr_aload_n (n := 8) (j := 0) C dd_X9_tileRows_0.2.2.2.1 rfl rfl ?_
  obtain ⟨x_5, hx_5, hR⟩ := yf_b hR
  refine xr_callVp (n := 11) (As := []) (rest := [.int x_1]) C (kX9_h l D cy (g := g) (gth := gth) (gw := gw) (gB := gB) (gK := gK) (gU := gU) (gS := gS) (gbe := gbe) (gwo := gwo) (gta := gta) (gn := gn) (glr := glr) (glc := glc) (gti := gti) (ggo := ggo) (gR := gR) (gch := gch) (gD := gD) hx_5) mX9_h u_1426 u_1428 u_38 0 rfl rfl 2 [0] [1] rfl (by decide +kernel) rfl rfl rfl rfl (Nat.le_of_ble_eq_true rfl) (Nat.le_of_ble_eq_true rfl) (Nat.le_of_ble_eq_true rfl) (Nat.le_of_ble_eq_true rfl) (Nat.le_of_ble_eq_true rfl) dd_X9_tileRows_0.2.2.2.2.1 rfl (fun _ _ hp => hp.2) (fun v_6 hp_8 => ?_)
  obtain ⟨rfl, -⟩ := hp_8
  refine xr_st (st' := [.int x_5, .int x_1]) rfl ?_
  refine xr_aload_n (n := 12) (j := 0) C dd_X9_tileRows_0.2.2.2.2.2.1 rfl rfl ?_
  refine xr_get (n := 15) C 0 rfl rfl 12 (by decide) in_X9 u_1249 rfl (v := .int gti) rfl dd_X9_tileRows_0.2.2.2.2.2.2.1 rfl ?_
  refine xr_aload_n (n := 16) (j := 0) C dd_X9_tileRows_0.2.2.2.2.2.2.2.1 rfl rfl ?_
  refine xr_get (n := 19) C 0 rfl rfl 9 (by decide) in_X9 u_1246 rfl (v := .ref gn) rfl dd_X9_tileRows_0.2.2.2.2.2.2.2.2.1 rfl ?_
  obtain ⟨x_9, hx_9, hR⟩ := yf_b hR
  refine xr_callVp (n := 22) (As := []) (rest := [.int gti, .int x_5, .int x_1]) C (kX8_columns l D cy (w := gn) (wr := gnr) (wk := gnk) (wc := gnc) (wg := gng) (ws := gns) (wa := gna) (wb := gnb) hx_9) mX8_columns u_1387 u_1388 u_1389 1 rfl rfl 2 [1] [0] rfl (by decide +kernel) rfl rfl rfl rfl (Nat.le_of_ble_eq_true rfl) (Nat.le_of_ble_eq_true rfl) (Nat.le_of_ble_eq_true rfl) (Nat.le_of_ble_eq_true rfl) (Nat.le_of_ble_eq_true rfl) dd_X9_tileRows_0.2.2.2.2.2.2.2.2.2.1 rfl (fun _ _ hp => hp.2) (fun v_10 hp_12 => ?_)
  obtain ⟨rfl, -⟩ := hp_12
  refine xr_st (st' := [.int x_9, .int gti, .int x_5, .int x_1]) rfl ?_
  refine xr_aload_n (n := 23) (j := 0) C dd_X9_tileRows_0.2.2.2.2.2.2.2.2.2.2.1 rfl rfl ?_
  obtain ⟨x_13, hx_13, hR⟩ := yf_b hR
  refine xr_callVp (n := 26) (As := []) (rest := [.int x_9, .int gti, .int x_5, .int x_1]) C (kX9_w l D cy (g := g) (gth := gth) (gw := gw) (gB := gB) (gK := gK) (gU := gU) (gS := gS) (gbe := gbe) (gwo := gwo) (gta := gta) (gn := gn) (glr := glr) (glc := glc) (gti := gti) (ggo := ggo) (gR := gR) (gch := gch) (gD := gD) hx_13) mX9_w u_1422 u_1424 u_37 0 rfl rfl 2 [0] [1] rfl (by decide +kernel) rfl rfl rfl rfl (Nat.le_of_ble_eq_true rfl) (Nat.le_of_ble_eq_true rfl) (Nat.le_of_ble_eq_true rfl) (Nat.le_of_ble_eq_true rfl) (Nat.le_of_ble_eq_true rfl) dd_X9_tileRows_0.2.2.2.2.2.2.2.2.2.2.2.1 rfl (fun _ _ hp => hp.2) (fun v_14 hp_16 => ?_)
  obtain ⟨rfl, -⟩ := hp_16
  refine xr_st (st' := [.int x_13, .int x_9, .int gti, .int x_5, .int x_1]) rfl ?_
  obtain ⟨x_17, hx_17, hR⟩ := yf_b hR
  refine xr_callSp (n := 29) (As := [.int x_9, .int x_13]) (rest := [.int gti, .int x_5, .int x_1]) C (kX9_tiles l D cy (i1 := x_9) (i2 := x_13) hx_17) mX9_tiles u_1384 u_1385 2 [] [0, 1] rfl (by decide +kernel) rfl rfl rfl rfl (Nat.le_of_ble_eq_true rfl) (Nat.le_of_ble_eq_true rfl) (Nat.le_of_ble_eq_true rfl) (Nat.le_of_ble_eq_true rfl) (Nat.le_of_ble_eq_true rfl) dd_X9_tileRows_0.2.2.2.2.2.2.2.2.2.2.2.2.1 rfl (fun _ _ hp => hp.2) (fun v_18 hp_20 => ?_)
  obtain ⟨rfl, -⟩ := hp_20
  refine xr_st (st' := [.int x_17, .int gti, .int x_5, .int x_1]) rfl ?_
  obtain ⟨g_21, hR⟩ := yf_g hR
  refine xr_idiv (n := 30) C dd_X9_tileRows_0.2.2.2.2.2.2.2.2.2.2.2.2.2.1 g_21 rfl ?_
  obtain ⟨x_22, hx_22, hR⟩ := yf_b hR
  refine xr_callSp (n := 33) (As := [.int x_1, .int x_5, .int (gti / x_17)]) (rest := []) C (kX9_size l D cy (i1 := x_1) (i2 := x_5) (i3 := gti / x_17) hx_22) mX9_size u_1391 u_1392 2 [] [0, 1] rfl (by decide +kernel) rfl rfl rfl rfl (Nat.le_of_ble_eq_true rfl) (Nat.le_of_ble_eq_true rfl) (Nat.le_of_ble_eq_true rfl) (Nat.le_of_ble_eq_true rfl) (Nat.le_of_ble_eq_true rfl) dd_X9_tileRows_0.2.2.2.2.2.2.2.2.2.2.2.2.2.2.1 rfl (fun _ _ hp => hp.2) (fun v_23 hp_25 => ?_)
  obtain ⟨rfl, -⟩ := hp_25
  refine xr_st (st' := [.int x_22]) rfl ?_
  obtain rfl := Option.some.inj hR
  exact ret x_22 ⟨rfl, rfl⟩ (Nat.le_of_ble_eq_true rfl) (Nat.le_of_ble_eq_true rfl) dd_X9_tileRows_0.2.2.2.2.2.2.2.2.2.2.2.2.2.2.2.1
theorem dd_X9_tileColumns_0 : dk_R cX9_tileColumns [(0, .aload_n 0, 1), (1, .getfield 137, 3), (4, .invokevirtual 113, 3), (7, .aload_n 0, 1), (8, .invokevirtual 158, 3), (11, .aload_n 0, 1), (12, .getfield 155, 3), (15, .aload_n 0, 1), (16, .getfield 137, 3), (19, .invokevirtual 113, 3), (22, .aload_n 0, 1), (23, .invokevirtual 158, 3), (26, .invokestatic 110, 3), (29, .irem, 1), (30, .invokestatic 116, 3), (33, .ireturn, 1)] := dk_use _ _ (by decide +kernel)
def fX9_tileColumns (glc : Int32) (gti : Int32) (gnc : Int32) (gns : Int32) : Option (Int32) := ((fX8_columns gnc gns).bind fun x_1 => ((fX9_w glc).bind fun x_5 => ((fX8_columns gnc gns).bind fun x_9 => ((fX9_w glc).bind fun x_13 => ((fX9_tiles x_9 x_13).bind fun x_17 => (if ¬ x_17 = 0 then ((fX9_size x_1 x_5 (gti - gti / x_17 * x_17)).bind fun x_22 => some x_22) else none))))))
abbrev hX9_tileColumns : Cond := .code yX9_tileColumns cX9_tileColumns 1 (some .int)
theorem mX9_tileColumns : yM yX9_tileColumns hX9_tileColumns 0 := ⟨u_1446, u_64, by decide +kernel, by decide +kernel, by decide +kernel⟩
set_option maxHeartbeats 4000000 in
set_option maxRecDepth 100000 in
theorem kX9_tileColumns (l : Launch) (D : va_G) (cy : Nat → ClassId) (g : Nat) (gth : Int32) (gw : Nat) (gB : Nat) (gK : Nat) (gU : Nat) (gS : Nat) (gbe : Int32) (gwo : Int32) (gta : Int64) (gn : Nat) (glr : Int32) (glc : Int32) (gti : Int32) (ggo : Int32) (gR : Nat) (gch : Int32) (gD : Nat) (gnr : Int32) (gnk : Int32) (gnc : Int32) (gng : Int32) (gns : Int32) (gna : Nat) (gnb : Nat) {res : Int32} (hR : fX9_tileColumns glc gti gnc gns = some res) : YM l D cy yX9_tileColumns hX9_tileColumns 3 0 0 [.ref g] [[(g, .inr (11, [.int gth, .ref gw, .ref gB, .ref gK, .ref gU, .ref gS, .int gbe, .int gwo, .long gta, .ref gn, .int glr, .int glc, .int gti, .int ggo, .ref gR, .int gch, .ref gD]))], [(gn, .inr (10, [.int gnr, .int gnk, .int gnc, .int gng, .int gns, .ref gna, .ref gnb]))]] (fun v u => v = some (.int res) ∧ u = [[(g, .inr (11, [.int gth, .ref gw, .ref gB, .ref gK, .ref gU, .ref gS, .int gbe, .int gwo, .long gta, .ref gn, .int glr, .int glc, .int gti, .int ggo, .ref gR, .int gch, .ref gD]))], [(gn, .inr (10, [.int gnr, .int gnk, .int gnc, .int gng, .int gns, .ref gna, .ref gnb]))]]) := by
  unfold fX9_tileColumns at hR
  refine YM.ofI (cc := cX9_tileColumns) (maxL := 1) (ret := (some .int)) (by decide +kernel) rfl (Nat.le_of_ble_eq_true rfl) [(0, .ref g)] rfl rfl (fun p e s m args below meth c A H0 Q C hnm ret => ?_)
  refine xr_aload_n (n := 1) (j := 0) C dd_X9_tileColumns_0.1 rfl rfl ?_
  refine xr_get (n := 4) C 0 rfl rfl 9 (by decide) in_X9 u_1246 rfl (v := .ref gn) rfl dd_X9_tileColumns_0.2.1 rfl ?_
  obtain ⟨x_1, hx_1, hR⟩ := yf_b hR
  refine xr_callVp (n := 7) (As := []) (rest := []) C (kX8_columns l D cy (w := gn) (wr := gnr) (wk := gnk) (wc := gnc) (wg := gng) (ws := gns) (wa := gna) (wb := gnb) hx_1) mX8_columns u_1387 u_1388 u_1389 1 rfl rfl 2 [1] [0] rfl (by decide +kernel) rfl rfl rfl rfl (Nat.le_of_ble_eq_true rfl) (Nat.le_of_ble_eq_true rfl) (Nat.le_of_ble_eq_true rfl) (Nat.le_of_ble_eq_true rfl) (Nat.le_of_ble_eq_true rfl) dd_X9_tileColumns_0.2.2.1 rfl (fun _ _ hp => hp.2) (fun v_2 hp_4 => ?_)
  obtain ⟨rfl, -⟩ := hp_4
  refine xr_st (st' := [.int x_1]) rfl ?_
  refine xr_aload_n (n := 8) (j := 0) C dd_X9_tileColumns_0.2.2.2.1 rfl rfl ?_
  obtain ⟨x_5, hx_5, hR⟩ := yf_b hR
  refine xr_callVp (n := 11) (As := []) (rest := [.int x_1]) C (kX9_w l D cy (g := g) (gth := gth) (gw := gw) (gB := gB) (gK := gK) (gU := gU) (gS := gS) (gbe := gbe) (gwo := gwo) (gta := gta) (gn := gn) (glr := glr) (glc := glc) (gti := gti) (ggo := ggo) (gR := gR) (gch := gch) (gD := gD) hx_5) mX9_w u_1422 u_1424 u_37 0 rfl rfl 2 [0] [1] rfl (by decide +kernel) rfl rfl rfl rfl (Nat.le_of_ble_eq_true rfl) (Nat.le_of_ble_eq_true rfl) (Nat.le_of_ble_eq_true rfl) (Nat.le_of_ble_eq_true rfl) (Nat.le_of_ble_eq_true rfl) dd_X9_tileColumns_0.2.2.2.2.1 rfl (fun _ _ hp => hp.2) (fun v_6 hp_8 => ?_)
  obtain ⟨rfl, -⟩ := hp_8
  refine xr_st (st' := [.int x_5, .int x_1]) rfl ?_
  refine xr_aload_n (n := 12) (j := 0) C dd_X9_tileColumns_0.2.2.2.2.2.1 rfl rfl ?_
  refine xr_get (n := 15) C 0 rfl rfl 12 (by decide) in_X9 u_1249 rfl (v := .int gti) rfl dd_X9_tileColumns_0.2.2.2.2.2.2.1 rfl ?_
  refine xr_aload_n (n := 16) (j := 0) C dd_X9_tileColumns_0.2.2.2.2.2.2.2.1 rfl rfl ?_
  refine xr_get (n := 19) C 0 rfl rfl 9 (by decide) in_X9 u_1246 rfl (v := .ref gn) rfl dd_X9_tileColumns_0.2.2.2.2.2.2.2.2.1 rfl ?_
  obtain ⟨x_9, hx_9, hR⟩ := yf_b hR
  refine xr_callVp (n := 22) (As := []) (rest := [.int gti, .int x_5, .int x_1]) C (kX8_columns l D cy (w := gn) (wr := gnr) (wk := gnk) (wc := gnc) (wg := gng) (ws := gns) (wa := gna) (wb := gnb) hx_9) mX8_columns u_1387 u_1388 u_1389 1 rfl rfl 2 [1] [0] rfl (by decide +kernel) rfl rfl rfl rfl (Nat.le_of_ble_eq_true rfl) (Nat.le_of_ble_eq_true rfl) (Nat.le_of_ble_eq_true rfl) (Nat.le_of_ble_eq_true rfl) (Nat.le_of_ble_eq_true rfl) dd_X9_tileColumns_0.2.2.2.2.2.2.2.2.2.1 rfl (fun _ _ hp => hp.2) (fun v_10 hp_12 => ?_)
  obtain ⟨rfl, -⟩ := hp_12
  refine xr_st (st' := [.int x_9, .int gti, .int x_5, .int x_1]) rfl ?_
  refine xr_aload_n (n := 23) (j := 0) C dd_X9_tileColumns_0.2.2.2.2.2.2.2.2.2.2.1 rfl rfl ?_
  obtain ⟨x_13, hx_13, hR⟩ := yf_b hR
  refine xr_callVp (n := 26) (As := []) (rest := [.int x_9, .int gti, .int x_5, .int x_1]) C (kX9_w l D cy (g := g) (gth := gth) (gw := gw) (gB := gB) (gK := gK) (gU := gU) (gS := gS) (gbe := gbe) (gwo := gwo) (gta := gta) (gn := gn) (glr := glr) (glc := glc) (gti := gti) (ggo := ggo) (gR := gR) (gch := gch) (gD := gD) hx_13) mX9_w u_1422 u_1424 u_37 0 rfl rfl 2 [0] [1] rfl (by decide +kernel) rfl rfl rfl rfl (Nat.le_of_ble_eq_true rfl) (Nat.le_of_ble_eq_true rfl) (Nat.le_of_ble_eq_true rfl) (Nat.le_of_ble_eq_true rfl) (Nat.le_of_ble_eq_true rfl) dd_X9_tileColumns_0.2.2.2.2.2.2.2.2.2.2.2.1 rfl (fun _ _ hp => hp.2) (fun v_14 hp_16 => ?_)
  obtain ⟨rfl, -⟩ := hp_16
  refine xr_st (st' := [.int x_13, .int x_9, .int gti, .int x_5, .int x_1]) rfl ?_
  obtain ⟨x_17, hx_17, hR⟩ := yf_b hR
  refine xr_callSp (n := 29) (As := [.int x_9, .int x_13]) (rest := [.int gti, .int x_5, .int x_1]) C (kX9_tiles l D cy (i1 := x_9) (i2 := x_13) hx_17) mX9_tiles u_1384 u_1385 2 [] [0, 1] rfl (by decide +kernel) rfl rfl rfl rfl (Nat.le_of_ble_eq_true rfl) (Nat.le_of_ble_eq_true rfl) (Nat.le_of_ble_eq_true rfl) (Nat.le_of_ble_eq_true rfl) (Nat.le_of_ble_eq_true rfl) dd_X9_tileColumns_0.2.2.2.2.2.2.2.2.2.2.2.2.1 rfl (fun _ _ hp => hp.2) (fun v_18 hp_20 => ?_)
  obtain ⟨rfl, -⟩ := hp_20
  refine xr_st (st' := [.int x_17, .int gti, .int x_5, .int x_1]) rfl ?_
  obtain ⟨g_21, hR⟩ := yf_g hR
  refine xr_irem (n := 30) C dd_X9_tileColumns_0.2.2.2.2.2.2.2.2.2.2.2.2.2.1 g_21 rfl ?_
  obtain ⟨x_22, hx_22, hR⟩ := yf_b hR
  refine xr_callSp (n := 33) (As := [.int x_1, .int x_5, .int (gti - gti / x_17 * x_17)]) (rest := []) C (kX9_size l D cy (i1 := x_1) (i2 := x_5) (i3 := gti - gti / x_17 * x_17) hx_22) mX9_size u_1391 u_1392 2 [] [0, 1] rfl (by decide +kernel) rfl rfl rfl rfl (Nat.le_of_ble_eq_true rfl) (Nat.le_of_ble_eq_true rfl) (Nat.le_of_ble_eq_true rfl) (Nat.le_of_ble_eq_true rfl) (Nat.le_of_ble_eq_true rfl) dd_X9_tileColumns_0.2.2.2.2.2.2.2.2.2.2.2.2.2.2.1 rfl (fun _ _ hp => hp.2) (fun v_23 hp_25 => ?_)
  obtain ⟨rfl, -⟩ := hp_25
  refine xr_st (st' := [.int x_22]) rfl ?_
  obtain rfl := Option.some.inj hR
  exact ret x_22 ⟨rfl, rfl⟩ (Nat.le_of_ble_eq_true rfl) (Nat.le_of_ble_eq_true rfl) dd_X9_tileColumns_0.2.2.2.2.2.2.2.2.2.2.2.2.2.2.2.1
theorem dd_X9_tileBeats_0 : dk_R cX9_tileBeats [(0, .aload_n 0, 1), (1, .invokevirtual 161, 3), (4, .aload_n 0, 1), (5, .invokevirtual 164, 3), (8, .iadd, 1), (9, .aload_n 0, 1), (10, .getfield 137, 3), (13, .invokevirtual 120, 3), (16, .iadd, 1), (17, .iconst 1, 1), (18, .isub, 1), (19, .ireturn, 1)] := dk_use _ _ (by decide +kernel)
def fX9_tileBeats (glr : Int32) (glc : Int32) (gti : Int32) (gnr : Int32) (gnk : Int32) (gnc : Int32) (gng : Int32) (gns : Int32) (gnan : Nat) (gnak : Nat) (gnaG : Nat → Nat → Int32) (gnbn : Nat) (gnbk : Nat) (gnbG : Nat → Nat → Int32) : Option (Int32) := ((fX9_tileRows glr glc gti gnr gnc gns).bind fun x_1 => ((fX9_tileColumns glc gti gnc gns).bind fun x_5 => ((fX8_steps gnk gng gnan gnak gnaG gnbn gnbk gnbG).bind fun x_9 => some (((x_1 + x_5) + x_9) - 1))))
abbrev hX9_tileBeats : Cond := .code yX9_tileBeats cX9_tileBeats 1 (some .int)
theorem mX9_tileBeats : yM yX9_tileBeats hX9_tileBeats 0 := ⟨u_1475, u_64, by decide +kernel, by decide +kernel, by decide +kernel⟩
set_option maxHeartbeats 4000000 in
set_option maxRecDepth 100000 in
theorem kX9_tileBeats (l : Launch) (D : va_G) (cy : Nat → ClassId) (g : Nat) (gth : Int32) (gw : Nat) (gB : Nat) (gK : Nat) (gU : Nat) (gS : Nat) (gbe : Int32) (gwo : Int32) (gta : Int64) (gn : Nat) (glr : Int32) (glc : Int32) (gti : Int32) (ggo : Int32) (gR : Nat) (gch : Int32) (gD : Nat) (gnr : Int32) (gnk : Int32) (gnc : Int32) (gng : Int32) (gns : Int32) (gna : Nat) (gnb : Nat) (gnad : Nat → Nat) (gnan : Nat) (gnak : Nat) (gnaG : Nat → Nat → Int32) (gnbd : Nat → Nat) (gnbn : Nat) (gnbk : Nat) (gnbG : Nat → Nat → Int32) {res : Int32} (hR : fX9_tileBeats glr glc gti gnr gnk gnc gng gns gnan gnak gnaG gnbn gnbk gnbG = some res) : YM l D cy yX9_tileBeats hX9_tileBeats 4 0 0 [.ref g] [[(g, .inr (11, [.int gth, .ref gw, .ref gB, .ref gK, .ref gU, .ref gS, .int gbe, .int gwo, .long gta, .ref gn, .int glr, .int glc, .int gti, .int ggo, .ref gR, .int gch, .ref gD]))], [(gn, .inr (10, [.int gnr, .int gnk, .int gnc, .int gng, .int gns, .ref gna, .ref gnb]))], [(gna, .inl (cy 3, gnan, .inr (.inr (.inr (.inr (yad gnad))))))], xg_rows gnad gnan (cy 1) gnak gnaG, [(gnb, .inl (cy 3, gnbn, .inr (.inr (.inr (.inr (yad gnbd))))))], xg_rows gnbd gnbn (cy 1) gnbk gnbG] (fun v u => v = some (.int res) ∧ u = [[(g, .inr (11, [.int gth, .ref gw, .ref gB, .ref gK, .ref gU, .ref gS, .int gbe, .int gwo, .long gta, .ref gn, .int glr, .int glc, .int gti, .int ggo, .ref gR, .int gch, .ref gD]))], [(gn, .inr (10, [.int gnr, .int gnk, .int gnc, .int gng, .int gns, .ref gna, .ref gnb]))], [(gna, .inl (cy 3, gnan, .inr (.inr (.inr (.inr (yad gnad))))))], xg_rows gnad gnan (cy 1) gnak gnaG, [(gnb, .inl (cy 3, gnbn, .inr (.inr (.inr (.inr (yad gnbd))))))], xg_rows gnbd gnbn (cy 1) gnbk gnbG]) := by
  unfold fX9_tileBeats at hR
  refine YM.ofI (cc := cX9_tileBeats) (maxL := 1) (ret := (some .int)) (by decide +kernel) rfl (Nat.le_of_ble_eq_true rfl) [(0, .ref g)] rfl rfl (fun p e s m args below meth c A H0 Q C hnm ret => ?_)
  refine xr_aload_n (n := 1) (j := 0) C dd_X9_tileBeats_0.1 rfl rfl ?_
  obtain ⟨x_1, hx_1, hR⟩ := yf_b hR
  refine xr_callVp (n := 4) (As := []) (rest := []) C (kX9_tileRows l D cy (g := g) (gth := gth) (gw := gw) (gB := gB) (gK := gK) (gU := gU) (gS := gS) (gbe := gbe) (gwo := gwo) (gta := gta) (gn := gn) (glr := glr) (glc := glc) (gti := gti) (ggo := ggo) (gR := gR) (gch := gch) (gD := gD) (gnr := gnr) (gnk := gnk) (gnc := gnc) (gng := gng) (gns := gns) (gna := gna) (gnb := gnb) hx_1) mX9_tileRows u_1439 u_1441 u_40 0 rfl rfl 6 [0, 1] [2, 3, 4, 5] rfl (by decide +kernel) rfl rfl rfl rfl (Nat.le_of_ble_eq_true rfl) (Nat.le_of_ble_eq_true rfl) (Nat.le_of_ble_eq_true rfl) (Nat.le_of_ble_eq_true rfl) (Nat.le_of_ble_eq_true rfl) dd_X9_tileBeats_0.2.1 rfl (fun _ _ hp => hp.2) (fun v_2 hp_4 => ?_)
  obtain ⟨rfl, -⟩ := hp_4
  refine xr_st (st' := [.int x_1]) rfl ?_
  refine xr_aload_n (n := 5) (j := 0) C dd_X9_tileBeats_0.2.2.1 rfl rfl ?_
  obtain ⟨x_5, hx_5, hR⟩ := yf_b hR
  refine xr_callVp (n := 8) (As := []) (rest := [.int x_1]) C (kX9_tileColumns l D cy (g := g) (gth := gth) (gw := gw) (gB := gB) (gK := gK) (gU := gU) (gS := gS) (gbe := gbe) (gwo := gwo) (gta := gta) (gn := gn) (glr := glr) (glc := glc) (gti := gti) (ggo := ggo) (gR := gR) (gch := gch) (gD := gD) (gnr := gnr) (gnk := gnk) (gnc := gnc) (gng := gng) (gns := gns) (gna := gna) (gnb := gnb) hx_5) mX9_tileColumns u_1443 u_1445 u_41 0 rfl rfl 6 [0, 1] [2, 3, 4, 5] rfl (by decide +kernel) rfl rfl rfl rfl (Nat.le_of_ble_eq_true rfl) (Nat.le_of_ble_eq_true rfl) (Nat.le_of_ble_eq_true rfl) (Nat.le_of_ble_eq_true rfl) (Nat.le_of_ble_eq_true rfl) dd_X9_tileBeats_0.2.2.2.1 rfl (fun _ _ hp => hp.2) (fun v_6 hp_8 => ?_)
  obtain ⟨rfl, -⟩ := hp_8
  refine xr_st (st' := [.int x_5, .int x_1]) rfl ?_
  refine xr_iadd (n := 9) C dd_X9_tileBeats_0.2.2.2.2.1 rfl ?_
  refine xr_aload_n (n := 10) (j := 0) C dd_X9_tileBeats_0.2.2.2.2.2.1 rfl rfl ?_
  refine xr_get (n := 13) C 0 rfl rfl 9 (by decide) in_X9 u_1246 rfl (v := .ref gn) rfl dd_X9_tileBeats_0.2.2.2.2.2.2.1 rfl ?_
  obtain ⟨x_9, hx_9, hR⟩ := yf_b hR
  refine xr_callVp (n := 16) (As := []) (rest := [.int (x_1 + x_5)]) C (kX8_steps l D cy (w := gn) (wr := gnr) (wk := gnk) (wc := gnc) (wg := gng) (ws := gns) (wa := gna) (wb := gnb) (wad := gnad) (wan := gnan) (wak := gnak) (waG := gnaG) (wbd := gnbd) (wbn := gnbn) (wbk := gnbk) (wbG := gnbG) hx_9) mX8_steps u_1355 u_1356 u_1357 1 rfl rfl 6 [1, 2, 3, 4, 5] [0] rfl (by decide +kernel) rfl rfl rfl rfl (Nat.le_of_ble_eq_true rfl) (Nat.le_of_ble_eq_true rfl) (Nat.le_of_ble_eq_true rfl) (Nat.le_of_ble_eq_true rfl) (Nat.le_of_ble_eq_true rfl) dd_X9_tileBeats_0.2.2.2.2.2.2.2.1 rfl (fun _ _ hp => hp.2) (fun v_10 hp_12 => ?_)
  obtain ⟨rfl, -⟩ := hp_12
  refine xr_st (st' := [.int x_9, .int (x_1 + x_5)]) rfl ?_
  refine xr_iadd (n := 17) C dd_X9_tileBeats_0.2.2.2.2.2.2.2.2.1 rfl ?_
  refine xr_iconst (n := 18) (v := 1) C dd_X9_tileBeats_0.2.2.2.2.2.2.2.2.2.1 rfl rfl ?_
  refine xr_isub (n := 19) C dd_X9_tileBeats_0.2.2.2.2.2.2.2.2.2.2.1 rfl ?_
  obtain rfl := Option.some.inj hR
  exact ret (((x_1 + x_5) + x_9) - 1) ⟨rfl, rfl⟩ (Nat.le_of_ble_eq_true rfl) (Nat.le_of_ble_eq_true rfl) dd_X9_tileBeats_0.2.2.2.2.2.2.2.2.2.2.2.1
theorem dd_X9_begin_0 : dk_R cX9_begin [(0, .aload_n 0, 1), (1, .iconst 0, 1), (2, .putfield 167, 3), (5, .aload_n 0, 1), (6, .getfield 35, 3), (9, .astore_n 1, 1), (10, .aload_n 1, 1), (11, .arraylength, 1), (12, .istore_n 2, 1), (13, .iconst 0, 1), (14, .istore_n 3, 1), (15, .iload_n 3, 1), (16, .iload_n 2, 1), (17, .if_icmp .ge 41, 3), (20, .aload_n 1, 1), (21, .iload_n 3, 1)] := dk_use _ _ (by decide +kernel)
theorem dd_X9_begin_1 : dk_R cX9_begin [(22, .aaload, 1), (23, .astore 4, 2), (25, .iconst 0, 1), (26, .istore 5, 2), (28, .iload 5, 2), (30, .iconst 5, 1), (31, .if_icmp .ge 21, 3), (34, .aload 4, 2), (36, .iload 5, 2), (38, .aload_n 0, 1), (39, .getfield 137, 3), (42, .invokevirtual 170, 3), (45, .iastore, 1), (46, .iinc 5 1, 3), (49, .goto (-21), 3), (52, .iinc 3 1, 3)] := dk_use _ _ (by decide +kernel)
theorem dd_X9_begin_2 : dk_R cX9_begin [(55, .goto (-40), 3), (58, .return_, 1)] := dk_use _ _ (by decide +kernel)
def fX9_begin (gng : Int32) (gSG : Nat → Nat → Int32) : Option (Int32 × (Nat → Nat → Int32)) := ((wl (S := Int32 × (Nat → Nat → Int32)) (B := Int32 × (Nat → Nat → Int32)) (fun s_1 => (if (nI 5) ≤ s_1.1 then some (.inr (s_1.1, s_1.2)) else (if ¬ (s_1.1 < 0 ∨ 5 ≤ s_1.1.toNatClampNeg) then ((wl (S := Int32 × (Nat → Nat → Int32)) (B := Int32 × (Nat → Nat → Int32)) (fun s_5 => (if 5 ≤ s_5.1 then some (.inr (s_5.1, s_5.2)) else ((fX8_first gng).bind fun x_8 => (if ¬ (s_5.1 < 0 ∨ 5 ≤ s_5.1.toNatClampNeg) then some (.inl (s_5.1 + 1, upg s_5.2 s_1.1.toNatClampNeg s_5.1.toNatClampNeg x_8)) else none)))) yFuel (0, s_1.2)).bind fun b_5 => some (.inl (s_1.1 + 1, b_5.2))) else none))) yFuel (0, gSG)).bind fun b_1 => some (0, b_1.2))
abbrev hX9_begin : Cond := .code yX9_begin cX9_begin 6 none
theorem mX9_begin : yM yX9_begin hX9_begin 0 := ⟨u_1409, u_64, by decide +kernel, by decide +kernel, by decide +kernel⟩
set_option maxHeartbeats 4000000 in
set_option maxRecDepth 100000 in
theorem kX9_begin (l : Launch) (D : va_G) (cy : Nat → ClassId) (g : Nat) (gth : Int32) (gw : Nat) (gB : Nat) (gK : Nat) (gU : Nat) (gS : Nat) (gbe : Int32) (gwo : Int32) (gta : Int64) (gn : Nat) (glr : Int32) (glc : Int32) (gti : Int32) (ggo : Int32) (gR : Nat) (gch : Int32) (gD : Nat) (gnr : Int32) (gnk : Int32) (gnc : Int32) (gng : Int32) (gns : Int32) (gna : Nat) (gnb : Nat) (gSd : Nat → Nat) (gSG : Nat → Nat → Int32) {res : Int32 × (Nat → Nat → Int32)} (hR : fX9_begin gng gSG = some res) : YM l D cy yX9_begin hX9_begin 2 0 0 [.ref g] [[(g, .inr (11, [.int gth, .ref gw, .ref gB, .ref gK, .ref gU, .ref gS, .int gbe, .int gwo, .long gta, .ref gn, .int glr, .int glc, .int gti, .int ggo, .ref gR, .int gch, .ref gD]))], [(gn, .inr (10, [.int gnr, .int gnk, .int gnc, .int gng, .int gns, .ref gna, .ref gnb]))], [(gS, .inl (cy 3, 5, .inr (.inr (.inr (.inr (yad gSd))))))], xg_rows gSd 5 (cy 1) 5 gSG] (fun v u => v = none ∧ u = [[(g, .inr (11, [.int gth, .ref gw, .ref gB, .ref gK, .ref gU, .ref gS, .int gbe, .int gwo, .long gta, .ref gn, .int glr, .int glc, .int gti, .int res.1, .ref gR, .int gch, .ref gD]))], [(gn, .inr (10, [.int gnr, .int gnk, .int gnc, .int gng, .int gns, .ref gna, .ref gnb]))], [(gS, .inl (cy 3, 5, .inr (.inr (.inr (.inr (yad gSd))))))], xg_rows gSd 5 (cy 1) 5 res.2]) := by
  unfold fX9_begin at hR
  refine YM.ofV (cc := cX9_begin) (maxL := 6) (ret := none) (by decide +kernel) rfl (Nat.le_of_ble_eq_true rfl) [(0, .ref g)] rfl rfl (fun p e s m args below meth c A H0 Q C hnm ret => ?_)
  refine xr_aload_n (n := 1) (j := 0) C dd_X9_begin_0.1 rfl rfl ?_
  refine xr_iconst (n := 2) (v := 0) C dd_X9_begin_0.2.1 rfl rfl ?_
  refine xr_put (n := 5) C 0 rfl rfl 13 (by decide) in_X9 tyX9 tyX9_ok nmX9 u_1250 rfl rfl rfl rfl (Nat.le_of_ble_eq_true rfl) [[(g, .inr (11, [.int gth, .ref gw, .ref gB, .ref gK, .ref gU, .ref gS, .int gbe, .int gwo, .long gta, .ref gn, .int glr, .int glc, .int gti, .int 0, .ref gR, .int gch, .ref gD]))], [(gn, .inr (10, [.int gnr, .int gnk, .int gnc, .int gng, .int gns, .ref gna, .ref gnb]))], [(gS, .inl (cy 3, 5, .inr (.inr (.inr (.inr (yad gSd))))))], xg_rows gSd 5 (cy 1) 5 gSG] rfl rfl dd_X9_begin_0.2.2.1 ?_
  refine xr_aload_n (n := 6) (j := 0) C dd_X9_begin_0.2.2.2.1 rfl rfl ?_
  refine xr_get (n := 9) C 0 rfl rfl 5 (by decide) in_X9 u_1242 rfl (v := .ref gS) rfl dd_X9_begin_0.2.2.2.2.1 rfl ?_
  refine xr_astore_n (n := 10) C [(1, .ref gS), (0, .ref g)] dd_X9_begin_0.2.2.2.2.2.1 (by decide) rfl rfl ?_
  refine xr_aload_n (n := 11) (j := 0) C dd_X9_begin_0.2.2.2.2.2.2.1 rfl rfl ?_
  refine xr_alen (n := 12) C 2 0 rfl 3 rfl rfl dd_X9_begin_0.2.2.2.2.2.2.2.1 rfl ?_
  refine xr_istore_n (n := 13) C [(2, .int (nI 5)), (1, .ref gS), (0, .ref g)] dd_X9_begin_0.2.2.2.2.2.2.2.2.1 (by decide) rfl rfl ?_
  refine xr_iconst (n := 14) (v := 0) C dd_X9_begin_0.2.2.2.2.2.2.2.2.2.1 rfl rfl ?_
  refine xr_istore_n (n := 15) C [(3, .int 0), (2, .int (nI 5)), (1, .ref gS), (0, .ref g)] dd_X9_begin_0.2.2.2.2.2.2.2.2.2.2.1 (by decide) rfl rfl ?_
  refine xr_lv (lv' := [(0, .ref g), (1, .ref gS), (2, .int (nI 5)), (3, .int 0)]) [3, 2, 1, 0] rfl ?_
  obtain ⟨b_1, hb_1, hR⟩ := yf_b hR
  have K_1 : X p l e (yR 2 0 0) s m args below meth c D A H0 6 Q [[(g, .inr (11, [.int gth, .ref gw, .ref gB, .ref gK, .ref gU, .ref gS, .int gbe, .int gwo, .long gta, .ref gn, .int glr, .int glc, .int gti, .int 0, .ref gR, .int gch, .ref gD]))], [(gn, .inr (10, [.int gnr, .int gnk, .int gnc, .int gng, .int gns, .ref gna, .ref gnb]))], [(gS, .inl (cy 3, 5, .inr (.inr (.inr (.inr (yad gSd))))))], xg_rows gSd 5 (cy 1) 5 b_1.2] 0 0 [] 58 [] := by
    obtain rfl := Option.some.inj hR
    exact ret ⟨rfl, rfl⟩ (Nat.le_of_ble_eq_true rfl) (Nat.le_of_ble_eq_true rfl) dd_X9_begin_2.2.1
  refine y_loop (P := fun (s_1 : Int32 × (Nat → Nat → Int32)) => X p l e (yR 2 0 0) s m args below meth c D A H0 6 Q [[(g, .inr (11, [.int gth, .ref gw, .ref gB, .ref gK, .ref gU, .ref gS, .int gbe, .int gwo, .long gta, .ref gn, .int glr, .int glc, .int gti, .int 0, .ref gR, .int gch, .ref gD]))], [(gn, .inr (10, [.int gnr, .int gnk, .int gnc, .int gng, .int gns, .ref gna, .ref gnb]))], [(gS, .inl (cy 3, 5, .inr (.inr (.inr (.inr (yad gSd))))))], xg_rows gSd 5 (cy 1) 5 s_1.2] 0 0 [(0, .ref g), (1, .ref gS), (2, .int (nI 5)), (3, .int s_1.1)] 15 []) ?_ _ (0, gSG) hb_1
  intro s_1 o_1 ho_1 hk_1 hx_1
  refine xr_iload_n (n := 16) (j := 3) C dd_X9_begin_0.2.2.2.2.2.2.2.2.2.2.2.1 rfl rfl ?_
  refine xr_iload_n (n := 17) (j := 2) C dd_X9_begin_0.2.2.2.2.2.2.2.2.2.2.2.2.1 rfl rfl ?_
  refine xr_icmp_ge (tgt := 58) (n := 20) C dd_X9_begin_0.2.2.2.2.2.2.2.2.2.2.2.2.2.1 rfl rfl (fun c_2 => ?_) (fun c_2 => ?_)
  · replace ho_1 := yf_t c_2 ho_1
    refine xr_lv (lv' := []) [] rfl ?_
    have e_3 := hx_1 _ (Option.some.inj ho_1).symm
    subst e_3
    exact K_1
  · replace ho_1 := yf_f c_2 ho_1
    refine xr_aload_n (n := 21) (j := 1) C dd_X9_begin_0.2.2.2.2.2.2.2.2.2.2.2.2.2.2.1 rfl rfl ?_
    refine xr_iload_n (n := 22) (j := 3) C dd_X9_begin_0.2.2.2.2.2.2.2.2.2.2.2.2.2.2.2.1 rfl rfl ?_
    obtain ⟨g_4, ho_1⟩ := yf_g ho_1
    refine xr_aald (n := 23) C 2 0 rfl 3 rfl rfl g_4 rfl dd_X9_begin_1.1 rfl ?_
    refine xr_astore (n := 25) C [(4, .ref (gSd s_1.1.toNatClampNeg)), (0, .ref g), (1, .ref gS), (2, .int (nI 5)), (3, .int s_1.1)] dd_X9_begin_1.2.1 (by decide) rfl rfl ?_
    refine xr_iconst (n := 26) (v := 0) C dd_X9_begin_1.2.2.1 rfl rfl ?_
    refine xr_istore (n := 28) C [(5, .int 0), (4, .ref (gSd s_1.1.toNatClampNeg)), (0, .ref g), (1, .ref gS), (2, .int (nI 5)), (3, .int s_1.1)] dd_X9_begin_1.2.2.2.1 (by decide) rfl rfl ?_
    refine xr_lv (lv' := [(0, .ref g), (1, .ref gS), (2, .int (nI 5)), (3, .int s_1.1), (4, .ref (gSd s_1.1.toNatClampNeg)), (5, .int 0)]) [2, 3, 4, 5, 1, 0] rfl ?_
    obtain ⟨b_5, hb_5, ho_1⟩ := yf_b ho_1
    have K_5 : X p l e (yR 2 0 0) s m args below meth c D A H0 6 Q [[(g, .inr (11, [.int gth, .ref gw, .ref gB, .ref gK, .ref gU, .ref gS, .int gbe, .int gwo, .long gta, .ref gn, .int glr, .int glc, .int gti, .int 0, .ref gR, .int gch, .ref gD]))], [(gn, .inr (10, [.int gnr, .int gnk, .int gnc, .int gng, .int gns, .ref gna, .ref gnb]))], [(gS, .inl (cy 3, 5, .inr (.inr (.inr (.inr (yad gSd))))))], xg_rows gSd 5 (cy 1) 5 b_5.2] 0 0 [(0, .ref g), (1, .ref gS), (2, .int (nI 5)), (3, .int s_1.1)] 52 [] := by
      refine xr_iinc (j := 3) (v := s_1.1 + 1) (n := 55) C [(3, .int (s_1.1 + 1)), (0, .ref g), (1, .ref gS), (2, .int (nI 5))] dd_X9_begin_1.2.2.2.2.2.2.2.2.2.2.2.2.2.2.2.1 rfl rfl (by decide) rfl rfl ?_
      refine xr_goto (tgt := 15) C dd_X9_begin_2.1 rfl ?_
      refine xr_lv (lv' := [(0, .ref g), (1, .ref gS), (2, .int (nI 5)), (3, .int (s_1.1 + 1))]) [1, 2, 3, 0] rfl ?_
      exact hk_1 (s_1.1 + 1, b_5.2) (Option.some.inj ho_1).symm
    refine y_loop (P := fun (s_5 : Int32 × (Nat → Nat → Int32)) => X p l e (yR 2 0 0) s m args below meth c D A H0 6 Q [[(g, .inr (11, [.int gth, .ref gw, .ref gB, .ref gK, .ref gU, .ref gS, .int gbe, .int gwo, .long gta, .ref gn, .int glr, .int glc, .int gti, .int 0, .ref gR, .int gch, .ref gD]))], [(gn, .inr (10, [.int gnr, .int gnk, .int gnc, .int gng, .int gns, .ref gna, .ref gnb]))], [(gS, .inl (cy 3, 5, .inr (.inr (.inr (.inr (yad gSd))))))], xg_rows gSd 5 (cy 1) 5 s_5.2] 0 0 [(0, .ref g), (1, .ref gS), (2, .int (nI 5)), (3, .int s_1.1), (4, .ref (gSd s_1.1.toNatClampNeg)), (5, .int s_5.1)] 28 []) ?_ _ (0, s_1.2) hb_5
    intro s_5 o_5 ho_5 hk_5 hx_5
    refine xr_iload (n := 30) (j := 5) C dd_X9_begin_1.2.2.2.2.1 rfl rfl ?_
    refine xr_iconst (n := 31) (v := 5) C dd_X9_begin_1.2.2.2.2.2.1 rfl rfl ?_
    refine xr_icmp_ge (tgt := 52) (n := 34) C dd_X9_begin_1.2.2.2.2.2.2.1 rfl rfl (fun c_6 => ?_) (fun c_6 => ?_)
    · replace ho_5 := yf_t c_6 ho_5
      refine xr_lv (lv' := [(0, .ref g), (1, .ref gS), (2, .int (nI 5)), (3, .int s_1.1)]) [0, 1, 2, 3] rfl ?_
      have e_7 := hx_5 _ (Option.some.inj ho_5).symm
      subst e_7
      exact K_5
    · replace ho_5 := yf_f c_6 ho_5
      refine xr_aload (n := 36) (j := 4) C dd_X9_begin_1.2.2.2.2.2.2.2.1 rfl rfl ?_
      refine xr_iload (n := 38) (j := 5) C dd_X9_begin_1.2.2.2.2.2.2.2.2.1 rfl rfl ?_
      refine xr_aload_n (n := 39) (j := 0) C dd_X9_begin_1.2.2.2.2.2.2.2.2.2.1 rfl rfl ?_
      refine xr_get (n := 42) C 0 rfl rfl 9 (by decide) in_X9 u_1246 rfl (v := .ref gn) rfl dd_X9_begin_1.2.2.2.2.2.2.2.2.2.2.1 rfl ?_
      obtain ⟨x_8, hx_8, ho_5⟩ := yf_b ho_5
      refine xr_callVp (n := 45) (As := []) (rest := [.int s_5.1, .ref (gSd s_1.1.toNatClampNeg)]) C (kX8_first l D cy (w := gn) (wr := gnr) (wk := gnk) (wc := gnc) (wg := gng) (ws := gns) (wa := gna) (wb := gnb) hx_8) mX8_first u_1410 u_1411 u_1412 1 rfl rfl 4 [1] [0, 2, 3] rfl (by decide +kernel) rfl rfl rfl rfl (Nat.le_of_ble_eq_true rfl) (Nat.le_of_ble_eq_true rfl) (Nat.le_of_ble_eq_true rfl) (Nat.le_of_ble_eq_true rfl) (Nat.le_of_ble_eq_true rfl) dd_X9_begin_1.2.2.2.2.2.2.2.2.2.2.2.1 rfl (fun _ _ hp => hp.2) (fun v_9 hp_11 => ?_)
      obtain ⟨rfl, -⟩ := hp_11
      refine xr_st (st' := [.int x_8, .int s_5.1, .ref (gSd s_1.1.toNatClampNeg)]) rfl ?_
      obtain ⟨g_12, ho_5⟩ := yf_g ho_5
      refine xr_iastg (n := 46) C 3 rfl s_1.1.toNatClampNeg (ylt g_4) g_12 [[(g, .inr (11, [.int gth, .ref gw, .ref gB, .ref gK, .ref gU, .ref gS, .int gbe, .int gwo, .long gta, .ref gn, .int glr, .int glc, .int gti, .int 0, .ref gR, .int gch, .ref gD]))], [(gn, .inr (10, [.int gnr, .int gnk, .int gnc, .int gng, .int gns, .ref gna, .ref gnb]))], [(gS, .inl (cy 3, 5, .inr (.inr (.inr (.inr (yad gSd))))))], xg_rows gSd 5 (cy 1) 5 (upg s_5.2 s_1.1.toNatClampNeg s_5.1.toNatClampNeg x_8)] rfl dd_X9_begin_1.2.2.2.2.2.2.2.2.2.2.2.2.1 rfl ?_
      refine xr_iinc (j := 5) (v := s_5.1 + 1) (n := 49) C [(5, .int (s_5.1 + 1)), (0, .ref g), (1, .ref gS), (2, .int (nI 5)), (3, .int s_1.1), (4, .ref (gSd s_1.1.toNatClampNeg))] dd_X9_begin_1.2.2.2.2.2.2.2.2.2.2.2.2.2.1 rfl rfl (by decide) rfl rfl ?_
      refine xr_goto (tgt := 28) C dd_X9_begin_1.2.2.2.2.2.2.2.2.2.2.2.2.2.2.1 rfl ?_
      refine xr_lv (lv' := [(0, .ref g), (1, .ref gS), (2, .int (nI 5)), (3, .int s_1.1), (4, .ref (gSd s_1.1.toNatClampNeg)), (5, .int (s_5.1 + 1))]) [1, 2, 3, 4, 5, 0] rfl ?_
      exact hk_5 (s_5.1 + 1, upg s_5.2 s_1.1.toNatClampNeg s_5.1.toNatClampNeg x_8) (Option.some.inj ho_5).symm
