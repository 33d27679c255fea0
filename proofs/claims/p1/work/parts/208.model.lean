theorem u_1443 : Cond.methodLink RX9 161 yX9_tileRows ∈ yU := yu_tables_1_6 187 (by decide +kernel) (by decide +kernel)
theorem u_1445 : Cond.instanceMethod yX9_tileRows ∈ yU := yu_tables_1_6 189 (by decide +kernel) (by decide +kernel)
theorem u_40 : Cond.selects RX9 yX9_tileRows yX9_tileRows ∈ yU := yu 40 (by decide +kernel) (by decide +kernel)
theorem u_1447 : Cond.methodLink RX9 164 yX9_tileColumns ∈ yU := yu_tables_1_6 191 (by decide +kernel) (by decide +kernel)
theorem u_1449 : Cond.instanceMethod yX9_tileColumns ∈ yU := yu_tables_1_6 193 (by decide +kernel) (by decide +kernel)
theorem u_41 : Cond.selects RX9 yX9_tileColumns yX9_tileColumns ∈ yU := yu 41 (by decide +kernel) (by decide +kernel)
theorem u_1359 : Cond.methodLink RX9 120 yX8_steps ∈ yU := yu_tables_1_6 103 (by decide +kernel) (by decide +kernel)
theorem u_1360 : Cond.instanceMethod yX8_steps ∈ yU := yu_tables_1_6 104 (by decide +kernel) (by decide +kernel)
theorem u_1361 : Cond.selects RX8 yX8_steps yX8_steps ∈ yU := yu_tables_1_6 105 (by decide +kernel) (by decide +kernel)
theorem u_1479 : Cond.code yX9_tileBeats cX9_tileBeats 1 (some .int) ∈ yU := yu_tables_1_6 223 (by decide +kernel) (by decide +kernel)
theorem u_1250 : Cond.fieldLink RX9 167 "PulsemeshModel" "gone" "I" ∈ yU := yu_tables_1_5 234 (by decide +kernel) (by decide +kernel)
theorem u_1242 : Cond.fieldLink RX9 35 "PulsemeshModel" "sums" "[[I" ∈ yU := yu_tables_1_5 226 (by decide +kernel) (by decide +kernel)
theorem u_1414 : Cond.methodLink RX9 170 yX8_first ∈ yU := yu_tables_1_6 158 (by decide +kernel) (by decide +kernel)
theorem u_1413 : Cond.code yX9_begin cX9_begin 6 none ∈ yU := yu_tables_1_6 157 (by decide +kernel) (by decide +kernel)
theorem u_1425 : Cond.code yX9_beatsFrom cX9_beatsFrom 4 (some .int) ∈ yU := yu_tables_1_6 169 (by decide +kernel) (by decide +kernel)
theorem u_1421 : Cond.code yX9_left_ cX9_left_ 1 (some .int) ∈ yU := yu_tables_1_6 165 (by decide +kernel) (by decide +kernel)
theorem u_1422 : Cond.methodLink RX9 190 yX9_beatsFrom ∈ yU := yu_tables_1_6 166 (by decide +kernel) (by decide +kernel)
theorem u_1424 : Cond.instanceMethod yX9_beatsFrom ∈ yU := yu_tables_1_6 168 (by decide +kernel) (by decide +kernel)
theorem u_36 : Cond.selects RX9 yX9_beatsFrom yX9_beatsFrom ∈ yU := yu 36 (by decide +kernel) (by decide +kernel)
theorem u_1454 : Cond.code yX9_stepTaken cX9_stepTaken 4 (some .int) ∈ yU := yu_tables_1_6 198 (by decide +kernel) (by decide +kernel)
theorem dd_X9_tileBeats_0 : dk_R cX9_tileBeats [(0, .aload_n 0, 1), (1, .invokevirtual 161, 3), (4, .aload_n 0, 1), (5, .invokevirtual 164, 3), (8, .iadd, 1), (9, .aload_n 0, 1), (10, .getfield 137, 3), (13, .invokevirtual 120, 3), (16, .iadd, 1), (17, .iconst 1, 1), (18, .isub, 1), (19, .ireturn, 1)] := dk_use _ _ (by decide +kernel)
def fX9_tileBeats (glr : Int32) (glc : Int32) (gti : Int32) (gnr : Int32) (gnk : Int32) (gnc : Int32) (gng : Int32) (gns : Int32) (gnan : Nat) (gnak : Nat) (gnaG : Nat → Nat → Int32) (gnbn : Nat) (gnbk : Nat) (gnbG : Nat → Nat → Int32) : Option (Int32) := ((fX9_tileRows glr glc gti gnr gnc gns).bind fun x_1 => ((fX9_tileColumns glc gti gnc gns).bind fun x_5 => ((fX8_steps gnk gng gnan gnak gnaG gnbn gnbk gnbG).bind fun x_9 => some (((x_1 + x_5) + x_9) - 1))))
abbrev hX9_tileBeats : Cond := .code yX9_tileBeats cX9_tileBeats 1 (some .int)
theorem mX9_tileBeats : yM yX9_tileBeats hX9_tileBeats 0 := ⟨u_1479, u_64, by decide +kernel, by decide +kernel, by decide +kernel⟩
set_option maxHeartbeats 4000000 in
set_option maxRecDepth 100000 in
theorem kX9_tileBeats (l : Launch) (D : va_G) (cy : Nat → ClassId) (g : Nat) (gth : Int32) (gw : Nat) (gB : Nat) (gK : Nat) (gU : Nat) (gS : Nat) (gbe : Int32) (gwo : Int32) (gta : Int64) (gn : Nat) (glr : Int32) (glc : Int32) (gti : Int32) (ggo : Int32) (gR : Nat) (gch : Int32) (gD : Nat) (gnr : Int32) (gnk : Int32) (gnc : Int32) (gng : Int32) (gns : Int32) (gna : Nat) (gnb : Nat) (gnad : Nat → Nat) (gnan : Nat) (gnak : Nat) (gnaG : Nat → Nat → Int32) (gnbd : Nat → Nat) (gnbn : Nat) (gnbk : Nat) (gnbG : Nat → Nat → Int32) {res : Int32} (hR : fX9_tileBeats glr glc gti gnr gnk gnc gng gns gnan gnak gnaG gnbn gnbk gnbG = some res) : YM l D cy yX9_tileBeats hX9_tileBeats 4 0 0 [.ref g] [[(g, .inr (11, [.int gth, .ref gw, .ref gB, .ref gK, .ref gU, .ref gS, .int gbe, .int gwo, .long gta, .ref gn, .int glr, .int glc, .int gti, .int ggo, .ref gR, .int gch, .ref gD]))], [(gn, .inr (10, [.int gnr, .int gnk, .int gnc, .int gng, .int gns, .ref gna, .ref gnb]))], [(gna, .inl (cy 3, gnan, .inr (.inr (.inr (.inr (yad gnad))))))], xg_rows gnad gnan (cy 1) gnak gnaG, [(gnb, .inl (cy 3, gnbn, .inr (.inr (.inr (.inr (yad gnbd))))))], xg_rows gnbd gnbn (cy 1) gnbk gnbG] (fun v u => v = some (.int res) ∧ u = [[(g, .inr (11, [.int gth, .ref gw, .ref gB, .ref gK, .ref gU, .ref gS, .int gbe, .int gwo, .long gta, .ref gn, .int glr, .int glc, .int gti, .int ggo, .ref gR, .int gch, .ref gD]))], [(gn, .inr (10, [.int gnr, .int gnk, .int gnc, .int gng, .int gns, .ref gna, .ref gnb]))], [(gna, .inl (cy 3, gnan, .inr (.inr (.inr (.inr (yad gnad))))))], xg_rows gnad gnan (cy 1) gnak gnaG, [(gnb, .inl (cy 3, gnbn, .inr (.inr (.inr (.inr (yad gnbd))))))], xg_rows gnbd gnbn (cy 1) gnbk gnbG]) := by
  unfold fX9_tileBeats at hR
  refine YM.ofI (cc := cX9_tileBeats) (maxL := 1) (ret := (some .int)) (by decide +kernel) rfl (Nat.le_of_ble_eq_true rfl) [(0, .ref g)] rfl rfl (fun p e s m args below meth c A H0 Q C hnm ret => ?_)
  refine xr_aload_n (n := 1) (j := 0) C dd_X9_tileBeats_0.1 rfl rfl ?_
  obtain ⟨x_1, hx_1, hR⟩ := yf_b hR
  refine xr_callVp (n := 4) (As := []) (rest := []) C (kX9_tileRows l D cy (g := g) (gth := gth) (gw := gw) (gB := gB) (gK := gK) (gU := gU) (gS := gS) (gbe := gbe) (gwo := gwo) (gta := gta) (gn := gn) (glr := glr) (glc := glc) (gti := gti) (ggo := ggo) (gR := gR) (gch := gch) (gD := gD) (gnr := gnr) (gnk := gnk) (gnc := gnc) (gng := gng) (gns := gns) (gna := gna) (gnb := gnb) hx_1) mX9_tileRows u_1443 u_1445 u_40 0 rfl rfl 6 [0, 1] [2, 3, 4, 5] rfl (by decide +kernel) rfl rfl rfl rfl (Nat.le_of_ble_eq_true rfl) (Nat.le_of_ble_eq_true rfl) (Nat.le_of_ble_eq_true rfl) (Nat.le_of_ble_eq_true rfl) (Nat.le_of_ble_eq_true rfl) dd_X9_tileBeats_0.2.1 rfl (fun _ _ hp => hp.2) (fun v_2 hp_4 => ?_)
  obtain ⟨rfl, -⟩ := hp_4
  refine xr_st (st' := [.int x_1]) rfl ?_
  refine xr_aload_n (n := 5) (j := 0) C dd_X9_tileBeats_0.2.2.1 rfl rfl ?_
  obtain ⟨x_5, hx_5, hR⟩ := yf_b hR
  refine xr_callVp (n := 8) (As := []) (rest := [.int x_1]) C (kX9_tileColumns l D cy (g := g) (gth := gth) (gw := gw) (gB := gB) (gK := gK) (gU := gU) (gS := gS) (gbe := gbe) (gwo := gwo) (gta := gta) (gn := gn) (glr := glr) (glc := glc) (gti := gti) (ggo := ggo) (gR := gR) (gch := gch) (gD := gD) (gnr := gnr) (gnk := gnk) (gnc := gnc) (gng := gng) (gns := gns) (gna := gna) (gnb := gnb) hx_5) mX9_tileColumns u_1447 u_1449 u_41 0 rfl rfl 6 [0, 1] [2, 3, 4, 5] rfl (by decide +kernel) rfl rfl rfl rfl (Nat.le_of_ble_eq_true rfl) (Nat.le_of_ble_eq_true rfl) (Nat.le_of_ble_eq_true rfl) (Nat.le_of_ble_eq_true rfl) (Nat.le_of_ble_eq_true rfl) dd_X9_tileBeats_0.2.2.2.1 rfl (fun _ _ hp => hp.2) (fun v_6 hp_8 => ?_)
  obtain ⟨rfl, -⟩ := hp_8
  refine xr_st (st' := [.int x_5, .int x_1]) rfl ?_
  refine xr_iadd (n := 9) C dd_X9_tileBeats_0.2.2.2.2.1 rfl ?_
  refine xr_aload_n (n := 10) (j := 0) C dd_X9_tileBeats_0.2.2.2.2.2.1 rfl rfl ?_
  refine xr_get (n := 13) C 0 rfl rfl 9 (by decide) in_X9 u_1246 rfl (v := .ref gn) rfl dd_X9_tileBeats_0.2.2.2.2.2.2.1 rfl ?_
  obtain ⟨x_9, hx_9, hR⟩ := yf_b hR
  refine xr_callVp (n := 16) (As := []) (rest := [.int (x_1 + x_5)]) C (kX8_steps l D cy (w := gn) (wr := gnr) (wk := gnk) (wc := gnc) (wg := gng) (ws := gns) (wa := gna) (wb := gnb) (wad := gnad) (wan := gnan) (wak := gnak) (waG := gnaG) (wbd := gnbd) (wbn := gnbn) (wbk := gnbk) (wbG := gnbG) hx_9) mX8_steps u_1359 u_1360 u_1361 1 rfl rfl 6 [1, 2, 3, 4, 5] [0] rfl (by decide +kernel) rfl rfl rfl rfl (Nat.le_of_ble_eq_true rfl) (Nat.le_of_ble_eq_true rfl) (Nat.le_of_ble_eq_true rfl) (Nat.le_of_ble_eq_true rfl) (Nat.le_of_ble_eq_true rfl) dd_X9_tileBeats_0.2.2.2.2.2.2.2.1 rfl (fun _ _ hp => hp.2) (fun v_10 hp_12 => ?_)
  obtain ⟨rfl, -⟩ := hp_12
  refine xr_st (st' := [.int x_9, .int (x_1 + x_5)]) rfl ?_
  refine xr_iadd (n := 17) C dd_X9_tileBeats_0.2.2.2.2.2.2.2.2.1 rfl ?_
  refine xr_iconst (n := 18) (v := 1) C dd_X9_tileBeats_0.2.2.2.2.2.2.2.2.2.1 rfl rfl ?_
  refine xr_isub (n := 19) C dd_X9_tileBeats_0.2.2.2.2.2.2.2.2.2.2.1 rfl ?_
  obtain rfl := Option.some.inj hR
  exact ret (((x_1 + x_5) + x_9) - 1) ⟨rfl, rfl⟩ (Nat.le_of_ble_eq_true rfl) (Nat.le_of_ble_eq_true rfl) dd_X9_tileBeats_0.2.2.2.2.2.2.2.2.2.2.2.1
theorem dd_X9_begin_0 : dk_R cX9_begin [(0, .aload_n 0, 1), (1, .iconst 0, 1), (2, .putfield 167, 3), (5, .aload_n 0, 1), (6, .getfield 35, 3), (9, .astore_n 1, 1), (10, .aload_n 1, 1), (11, .arraylength, 1), (12, .istore_n 2, 1), (13, .iconst 0, 1), (14, .istore_n 3, 1), (15, .iload_n 3, 1), (16, .iload_n 2, 1), (17, .if_icmp .ge 41, 3), (20, .aload_n 1, 1), (21, .iload_n 3, 1)] := dk_use _ _ (by decide +kernel)
theorem dd_X9_begin_1 : dk_R cX9_begin [(22, .aaload, 1), (23, .astore 4, 2), (25, .iconst 0, 1), (26, .istore 5, 2), (28, .iload 5, 2), (30, .iconst 5, 1), (31, .if_icmp .ge 21, 3), (34, .aload 4, 2), (36, .iload 5, 2), (38, .aload_n 0, 1), (39, .getfield 137, 3), (42, .invokevirtual 170, 3), (45, .iastore, 1), (46, .iinc 5 1, 3), (49, .goto (-21), 3), (52, .iinc 3 1, 3)] := dk_use _ _ (by decide +kernel)
theorem dd_X9_begin_2 : dk_R cX9_begin [(55, .goto (-40), 3), (58, .return_, 1)] := dk_use _ _ (by decide +kernel)
def fX9_begin (gng : Int32) (gSG : Nat → Nat → Int32) : Option (Int32 × (Nat → Nat → Int32)) := ((wl (S := Int32 × (Nat → Nat → Int32)) (B := Int32 × (Nat → Nat → Int32)) (fun s_1 => (if (nI 5) ≤ s_1.1 then some (.inr (s_1.1, s_1.2)) else (if ¬ (s_1.1 < 0 ∨ 5 ≤ s_1.1.toNatClampNeg) then ((wl (S := Int32 × (Nat → Nat → Int32)) (B := Int32 × (Nat → Nat → Int32)) (fun s_5 => (if 5 ≤ s_5.1 then some (.inr (s_5.1, s_5.2)) else ((fX8_first gng).bind fun x_8 => (if ¬ (s_5.1 < 0 ∨ 5 ≤ s_5.1.toNatClampNeg) then some (.inl (s_5.1 + 1, upg s_5.2 s_1.1.toNatClampNeg s_5.1.toNatClampNeg x_8)) else none)))) yFuel (0, s_1.2)).bind fun b_5 => some (.inl (s_1.1 + 1, b_5.2))) else none))) yFuel (0, gSG)).bind fun b_1 => some (0, b_1.2))
abbrev hX9_begin : Cond := .code yX9_begin cX9_begin 6 none
theorem mX9_begin : yM yX9_begin hX9_begin 0 := ⟨u_1413, u_64, by decide +kernel, by decide +kernel, by decide +kernel⟩
set_option maxHeartbeats 4000000 in
set_option maxRecDepth 100000 in
theorem kX9_begin (l : Launch) (D : va_G) (cy : Nat → ClassId) (g : Nat) (gth : Int32) (gw : Nat) (gB : Nat) (gK : Nat) (gU : Nat) (gS : Nat) (gbe : Int32) (gwo : Int32) (gta : Int64) (gn : Nat) (glr : Int32) (glc : Int32) (gti : Int32) (ggo : Int32) (gR : Nat) (gch : Int32) (gD : Nat) (gnr : Int32) (gnk : Int32) (gnc : Int32) (gng : Int32) (gns : Int32) (gna : Nat) (gnb : Nat) (gSd : Nat → Nat) (gSG : Nat → Nat → Int32) {res : Int32 × (Nat → Nat → Int32)} (hR : fX9_begin gng gSG = some res) : YM l D cy yX9_begin hX9_begin 2 0 0 [.ref g] [[(g, .inr (11, [.int gth, .ref gw, .ref gB, .ref gK, .ref gU, .ref gS, .int gbe, .int gwo, .long gta, .ref gn, .int glr, .int glc, .int gti, .int ggo, .ref gR, .int gch, .ref gD]))], [(gn, .inr (10, [.int gnr, .int gnk, .int gnc, .int gng, .int gns, .ref gna, .ref gnb]))], [(gS, .inl (cy 3, 5, .inr (.inr (.inr (.inr (yad gSd))))))], xg_rows gSd 5 (cy 1) 5 gSG] (fun v u => v = none ∧ u = [[(g, .inr (11, [.int gth, .ref gw, .ref gB, .ref gK, .ref gU, .ref gS, .int gbe, .int gwo, .long gta, .ref gn, .int glr, .int glc, .int gti, .int res.1, .ref gR, .int gch, .ref gD]))], [(gn, .inr (10, [.int gnr, .int gnk, .int gnc, .int gng, .int gns, .ref gna, .ref gnb]))], [(gS, .inl (cy 3, 5, .inr (.inr (.inr (.inr (yad gSd))))))], xg_rows gSd 5 (cy 1) 5 res.2]) := by
  unfold fX9_begin at hR
  refine YM.ofV (cc := cX9_begin) (maxL := 6) (ret := none) (by decide +kernel) rfl (Nat.le_of_ble_eq_true rfl) [(0, .ref g)] rfl rfl (fun p e s m args below meth c A H0 Q C hnm ret => ?_)
  refine xr_aload_n (n := 1) (j := 0) C dd_X9_begin_0.1 rfl rfl ?_
  refine xr_iconst (n := 2) (v := 0) C dd_X9_begin_0.2.1 rfl rfl ?_
  refine xr_put (n := 5) C 0 rfl rfl 13 (by decide) in_X9 tyX9 tyX9_ok nmX9 u_1250 rfl rfl rfl rfl (Nat.le_of_ble_eq_true rfl) [[(g, .inr (11, [.int gth, .ref gw, .ref gB, .ref gK, .ref gU, .ref gS, .int gbe, .int gwo, .long gta, .ref gn, .int glr, .int glc, .int gti, .int 0, .ref gR, .int gch, .ref gD]))], [(gn, .inr (10, [.int gnr, .int gnk, .int gnc, .int gng, .int gns, .ref gna, .ref gnb]))], [(gS, .inl (cy 3, 5, .inr (.inr (.inr (.inr (yad gSd))))))], xg_rows gSd 5 (cy 1) 5 gSG] rfl rfl dd_X9_begin_0.2.2.1 ?_
  refine xr_aload_n (n := 6) (j := 0) C dd_X9_begin_0.2.2.2.1 rfl rfl ?_
  refine xr_get (n := 9) C 0 rfl rfl 5 (by decide) in_X9 u_1242 rfl (v := .ref gS) rfl dd_X9_begin_0.2.2.2.2.1 rfl ?_
  refine xr_astore_n (n := 10) C [(1, .ref gS), (0, .ref g)] dd_X9_begin_0.2.2.2.2.2.1 (by decide) rfl rfl ?_
  refine xr_aload_n (n := 11) (j := 0) C dd_X9_begin_0.2.2.2.2.2.2.1 rfl rfl ?_
  refine xr_alen (n := 12) C 2 0 rfl 3 rfl rfl dd_X9_begin_0.2.2.2.2.2.2.2.1 rfl ?_
  refine xr_istore_n (n := 13) C [(2, .int (nI 5)), (1, .ref gS), (0, .ref g)] dd_X9_begin_0.2.2.2.2.2.2.2.2.1 (by decide) rfl rfl ?_
  refine xr_iconst (n := 14) (v := 0) C dd_X9_begin_0.2.2.2.2.2.2.2.2.2.1 rfl rfl ?_
  refine xr_istore_n (n := 15) C [(3, .int 0), (2, .int (nI 5)), (1, .ref gS), (0, .ref g)] dd_X9_begin_0.2.2.2.2.2.2.2.2.2.2.1 (by decide) rfl rfl ?_
  refine xr_lv (lv' := [(0, .ref g), (1, .ref gS), (2, .int (nI 5)), (3, .int 0)]) [3, 2, 1, 0] rfl ?_
  obtain ⟨b_1, hb_1, hR⟩ := yf_b hR
  have K_1 : X p l e (yR 2 0 0) s m args below meth c D A H0 6 Q [[(g, .inr (11, [.int gth, .ref gw, .ref gB, .ref gK, .ref gU, .ref gS, .int gbe, .int gwo, .long gta, .ref gn, .int glr, .int glc, .int gti, .int 0, .ref gR, .int gch, .ref gD]))], [(gn, .inr (10, [.int gnr, .int gnk, .int gnc, .int gng, .int gns, .ref gna, .ref gnb]))], [(gS, .inl (cy 3, 5, .inr (.inr (.inr (.inr (yad gSd))))))], xg_rows gSd 5 (cy 1) 5 b_1.2] 0 0 [] 58 [] := by
    obtain rfl := Option.some.inj hR
    exact ret ⟨rfl, rfl⟩ (Nat.le_of_ble_eq_true rfl) (Nat.le_of_ble_eq_true rfl) dd_X9_begin_2.2.1
  refine y_loop (P := fun (s_1 : Int32 × (Nat → Nat → Int32)) => X p l e (yR 2 0 0) s m args below meth c D A H0 6 Q [[(g, .inr (11, [.int gth, .ref gw, .ref gB, .ref gK, .ref gU, .ref gS, .int gbe, .int gwo, .long gta, .ref gn, .int glr, .int glc, .int gti, .int 0, .ref gR, .int gch, .ref gD]))], [(gn, .inr (10, [.int gnr, .int gnk, .int gnc, .int gng, .int gns, .ref gna, .ref gnb]))], [(gS, .inl (cy 3, 5, .inr (.inr (.inr (.inr (yad gSd))))))], xg_rows gSd 5 (cy 1) 5 s_1.2] 0 0 [(0, .ref g), (1, .ref gS), (2, .int (nI 5)), (3, .int s_1.1)] 15 []) ?_ _ (0, gSG) hb_1
  intro s_1 o_1 ho_1 hk_1 hx_1
  refine xr_iload_n (n := 16) (j := 3) C dd_X9_begin_0.2.2.2.2.2.2.2.2.2.2.2.1 rfl rfl ?_
  refine xr_iload_n (n := 17) (j := 2) C dd_X9_begin_0.2.2.2.2.2.2.2.2.2.2.2.2.1 rfl rfl ?_
  refine xr_icmp_ge (tgt := 58) (n := 20) C dd_X9_begin_0.2.2.2.2.2.2.2.2.2.2.2.2.2.1 rfl rfl (fun c_2 => ?_) (fun c_2 => ?_)
  · replace ho_1 := yf_t c_2 ho_1
    refine xr_lv (lv' := []) [] rfl ?_
    have e_3 := hx_1 _ (Option.some.inj ho_1).symm
    subst e_3
    exact K_1
  · replace ho_1 := yf_f c_2 ho_1
    refine xr_aload_n (n := 21) (j := 1) C dd_X9_begin_0.2.2.2.2.2.2.2.2.2.2.2.2.2.2.1 rfl rfl ?_
    refine xr_iload_n (n := 22) (j := 3) C dd_X9_begin_0.2.2.2.2.2.2.2.2.2.2.2.2.2.2.2.1 rfl rfl ?_
    obtain ⟨g_4, ho_1⟩ := yf_g ho_1
    refine xr_aald (n := 23) C 2 0 rfl 3 rfl rfl g_4 rfl dd_X9_begin_1.1 rfl ?_
    refine xr_astore (n := 25) C [(4, .ref (gSd s_1.1.toNatClampNeg)), (0, .ref g), (1, .ref gS), (2, .int (nI 5)), (3, .int s_1.1)] dd_X9_begin_1.2.1 (by decide) rfl rfl ?_
    refine xr_iconst (n := 26) (v := 0) C dd_X9_begin_1.2.2.1 rfl rfl ?_
    refine xr_istore (n := 28) C [(5, .int 0), (4, .ref (gSd s_1.1.toNatClampNeg)), (0, .ref g), (1, .ref gS), (2, .int (nI 5)), (3, .int s_1.1)] dd_X9_begin_1.2.2.2.1 (by decide) rfl rfl ?_
    refine xr_lv (lv' := [(0, .ref g), (1, .ref gS), (2, .int (nI 5)), (3, .int s_1.1), (4, .ref (gSd s_1.1.toNatClampNeg)), (5, .int 0)]) [2, 3, 4, 5, 1, 0] rfl ?_
    obtain ⟨b_5, hb_5, ho_1⟩ := yf_b ho_1
    have K_5 : X p l e (yR 2 0 0) s m args below meth c D A H0 6 Q [[(g, .inr (11, [.int gth, .ref gw, .ref gB, .ref gK, .ref gU, .ref gS, .int gbe, .int gwo, .long gta, .ref gn, .int glr, .int glc, .int gti, .int 0, .ref gR, .int gch, .ref gD]))], [(gn, .inr (10, [.int gnr, .int gnk, .int gnc, .int gng, .int gns, .ref gna, .ref gnb]))], [(gS, .inl (cy 3, 5, .inr (.inr (.inr (.inr (yad gSd))))))], xg_rows gSd 5 (cy 1) 5 b_5.2] 0 0 [(0, .ref g), (1, .ref gS), (2, .int (nI 5)), (3, .int s_1.1)] 52 [] := by
      refine xr_iinc (j := 3) (v := s_1.1 + 1) (n := 55) C [(3, .int (s_1.1 + 1)), (0, .ref g), (1, .ref gS), (2, .int (nI 5))] dd_X9_begin_1.2.2.2.2.2.2.2.2.2.2.2.2.2.2.2.1 rfl rfl (by decide) rfl rfl ?_
      refine xr_goto (tgt := 15) C dd_X9_begin_2.1 rfl ?_
      refine xr_lv (lv' := [(0, .ref g), (1, .ref gS), (2, .int (nI 5)), (3, .int (s_1.1 + 1))]) [1, 2, 3, 0] rfl ?_
      exact hk_1 (s_1.1 + 1, b_5.2) (Option.some.inj ho_1).symm
    refine y_loop (P := fun (s_5 : Int32 × (Nat → Nat → Int32)) => X p l e (yR 2 0 0) s m args below meth c D A H0 6 Q [[(g, .inr (11, [.int gth, .ref gw, .ref gB, .ref gK, .ref gU, .ref gS, .int gbe, .int gwo, .long gta, .ref gn, .int glr, .int glc, .int gti, .int 0, .ref gR, .int gch, .ref gD]))], [(gn, .inr (10, [.int gnr, .int gnk, .int gnc, .int gng, .int gns, .ref gna, .ref gnb]))], [(gS, .inl (cy 3, 5, .inr (.inr (.inr (.inr (yad gSd))))))], xg_rows gSd 5 (cy 1) 5 s_5.2] 0 0 [(0, .ref g), (1, .ref gS), (2, .int (nI 5)), (3, .int s_1.1), (4, .ref (gSd s_1.1.toNatClampNeg)), (5, .int s_5.1)] 28 []) ?_ _ (0, s_1.2) hb_5
    intro s_5 o_5 ho_5 hk_5 hx_5
    refine xr_iload (n := 30) (j := 5) C dd_X9_begin_1.2.2.2.2.1 rfl rfl ?_
    refine xr_iconst (n := 31) (v := 5) C dd_X9_begin_1.2.2.2.2.2.1 rfl rfl ?_
    refine xr_icmp_ge (tgt := 52) (n := 34) C dd_X9_begin_1.2.2.2.2.2.2.1 rfl rfl (fun c_6 => ?_) (fun c_6 => ?_)
    · replace ho_5 := yf_t c_6 ho_5
      refine xr_lv (lv' := [(0, .ref g), (1, .ref gS), (2, .int (nI 5)), (3, .int s_1.1)]) [0, 1, 2, 3] rfl ?_
      have e_7 := hx_5 _ (Option.some.inj ho_5).symm
      subst e_7
      exact K_5
    · replace ho_5 := yf_f c_6 ho_5
      refine xr_aload (n := 36) (j := 4) C dd_X9_begin_1.2.2.2.2.2.2.2.1 rfl rfl ?_
      refine xr_iload (n := 38) (j := 5) C dd_X9_begin_1.2.2.2.2.2.2.2.2.1 rfl rfl ?_
      refine xr_aload_n (n := 39) (j := 0) C dd_X9_begin_1.2.2.2.2.2.2.2.2.2.1 rfl rfl ?_
      refine xr_get (n := 42) C 0 rfl rfl 9 (by decide) in_X9 u_1246 rfl (v := .ref gn) rfl dd_X9_begin_1.2.2.2.2.2.2.2.2.2.2.1 rfl ?_
      obtain ⟨x_8, hx_8, ho_5⟩ := yf_b ho_5
      refine xr_callVp (n := 45) (As := []) (rest := [.int s_5.1, .ref (gSd s_1.1.toNatClampNeg)]) C (kX8_first l D cy (w := gn) (wr := gnr) (wk := gnk) (wc := gnc) (wg := gng) (ws := gns) (wa := gna) (wb := gnb) hx_8) mX8_first u_1414 u_1415 u_1416 1 rfl rfl 4 [1] [0, 2, 3] rfl (by decide +kernel) rfl rfl rfl rfl (Nat.le_of_ble_eq_true rfl) (Nat.le_of_ble_eq_true rfl) (Nat.le_of_ble_eq_true rfl) (Nat.le_of_ble_eq_true rfl) (Nat.le_of_ble_eq_true rfl) dd_X9_begin_1.2.2.2.2.2.2.2.2.2.2.2.1 rfl (fun _ _ hp => hp.2) (fun v_9 hp_11 => ?_)
      obtain ⟨rfl, -⟩ := hp_11
      refine xr_st (st' := [.int x_8, .int s_5.1, .ref (gSd s_1.1.toNatClampNeg)]) rfl ?_
      obtain ⟨g_12, ho_5⟩ := yf_g ho_5
      refine xr_iastg (n := 46) C 3 rfl s_1.1.toNatClampNeg (ylt g_4) g_12 [[(g, .inr (11, [.int gth, .ref gw, .ref gB, .ref gK, .ref gU, .ref gS, .int gbe, .int gwo, .long gta, .ref gn, .int glr, .int glc, .int gti, .int 0, .ref gR, .int gch, .ref gD]))], [(gn, .inr (10, [.int gnr, .int gnk, .int gnc, .int gng, .int gns, .ref gna, .ref gnb]))], [(gS, .inl (cy 3, 5, .inr (.inr (.inr (.inr (yad gSd))))))], xg_rows gSd 5 (cy 1) 5 (upg s_5.2 s_1.1.toNatClampNeg s_5.1.toNatClampNeg x_8)] rfl dd_X9_begin_1.2.2.2.2.2.2.2.2.2.2.2.2.1 rfl ?_
      refine xr_iinc (j := 5) (v := s_5.1 + 1) (n := 49) C [(5, .int (s_5.1 + 1)), (0, .ref g), (1, .ref gS), (2, .int (nI 5)), (3, .int s_1.1), (4, .ref (gSd s_1.1.toNatClampNeg))] dd_X9_begin_1.2.2.2.2.2.2.2.2.2.2.2.2.2.1 rfl rfl (by decide) rfl rfl ?_
      refine xr_goto (tgt := 28) C dd_X9_begin_1.2.2.2.2.2.2.2.2.2.2.2.2.2.2.1 rfl ?_
      refine xr_lv (lv' := [(0, .ref g), (1, .ref gS), (2, .int (nI 5)), (3, .int s_1.1), (4, .ref (gSd s_1.1.toNatClampNeg)), (5, .int (s_5.1 + 1))]) [1, 2, 3, 4, 5, 0] rfl ?_
      exact hk_5 (s_5.1 + 1, upg s_5.2 s_1.1.toNatClampNeg s_5.1.toNatClampNeg x_8) (Option.some.inj ho_5).symm
theorem dd_X9_beatsFrom_0 : dk_R cX9_beatsFrom [(0, .iconst 0, 1), (1, .istore_n 1, 1), (2, .aload_n 0, 1), (3, .getfield 137, 3), (6, .invokevirtual 113, 3), (9, .aload_n 0, 1), (10, .invokevirtual 158, 3), (13, .invokestatic 110, 3), (16, .istore_n 2, 1), (17, .aload_n 0, 1), (18, .getfield 155, 3), (21, .istore_n 3, 1), (22, .iload_n 3, 1), (23, .aload_n 0, 1), (24, .getfield 137, 3), (27, .invokevirtual 106, 3)] := dk_use _ _ (by decide +kernel)
theorem dd_X9_beatsFrom_1 : dk_R cX9_beatsFrom [(30, .aload_n 0, 1), (31, .invokevirtual 152, 3), (34, .invokestatic 110, 3), (37, .iload_n 2, 1), (38, .imul, 1), (39, .if_icmp .ge 57, 3), (42, .iload_n 1, 1), (43, .aload_n 0, 1), (44, .getfield 137, 3), (47, .invokevirtual 106, 3), (50, .aload_n 0, 1), (51, .invokevirtual 152, 3), (54, .iload_n 3, 1), (55, .iload_n 2, 1), (56, .idiv, 1), (57, .invokestatic 116, 3)] := dk_use _ _ (by decide +kernel)
theorem dd_X9_beatsFrom_2 : dk_R cX9_beatsFrom [(60, .aload_n 0, 1), (61, .getfield 137, 3), (64, .invokevirtual 113, 3), (67, .aload_n 0, 1), (68, .invokevirtual 158, 3), (71, .iload_n 3, 1), (72, .iload_n 2, 1), (73, .irem, 1), (74, .invokestatic 116, 3), (77, .iadd, 1), (78, .aload_n 0, 1), (79, .getfield 137, 3), (82, .invokevirtual 120, 3), (85, .iadd, 1), (86, .iconst 1, 1), (87, .isub, 1)] := dk_use _ _ (by decide +kernel)
theorem dd_X9_beatsFrom_3 : dk_R cX9_beatsFrom [(88, .iadd, 1), (89, .istore_n 1, 1), (90, .iinc 3 1, 3), (93, .goto (-71), 3), (96, .iload_n 1, 1), (97, .ireturn, 1)] := dk_use _ _ (by decide +kernel)
def fX9_beatsFrom (glr : Int32) (glc : Int32) (gti : Int32) (gnr : Int32) (gnk : Int32) (gnc : Int32) (gng : Int32) (gns : Int32) (gnan : Nat) (gnak : Nat) (gnaG : Nat → Nat → Int32) (gnbn : Nat) (gnbk : Nat) (gnbG : Nat → Nat → Int32) : Option (Int32) := ((fX8_columns gnc gns).bind fun x_1 => ((fX9_w glc).bind fun x_5 => ((fX9_tiles x_1 x_5).bind fun x_9 => ((wl (S := Int32 × Int32) (B := Int32 × Int32) (fun s_13 => ((fX8_rows gnr gns).bind fun x_14 => ((fX9_h glr).bind fun x_18 => ((fX9_tiles x_14 x_18).bind fun x_22 => (if (x_22 * x_9) ≤ s_13.2 then some (.inr (s_13.1, s_13.2)) else ((fX8_rows gnr gns).bind fun x_28 => ((fX9_h glr).bind fun x_32 => (if ¬ x_9 = 0 then ((fX9_size x_28 x_32 (s_13.2 / x_9)).bind fun x_37 => ((fX8_columns gnc gns).bind fun x_41 => ((fX9_w glc).bind fun x_45 => (if ¬ x_9 = 0 then ((fX9_size x_41 x_45 (s_13.2 - s_13.2 / x_9 * x_9)).bind fun x_50 => ((fX8_steps gnk gng gnan gnak gnaG gnbn gnbk gnbG).bind fun x_54 => some (.inl (s_13.1 + (((x_37 + x_50) + x_54) - 1), s_13.2 + 1)))) else none)))) else none)))))))) yFuel (0, gti)).bind fun b_13 => some b_13.1))))
abbrev hX9_beatsFrom : Cond := .code yX9_beatsFrom cX9_beatsFrom 4 (some .int)
theorem mX9_beatsFrom : yM yX9_beatsFrom hX9_beatsFrom 0 := ⟨u_1425, u_64, by decide +kernel, by decide +kernel, by decide +kernel⟩
set_option maxHeartbeats 4000000 in
set_option maxRecDepth 100000 in
theorem kX9_beatsFrom (l : Launch) (D : va_G) (cy : Nat → ClassId) (g : Nat) (gth : Int32) (gw : Nat) (gB : Nat) (gK : Nat) (gU : Nat) (gS : Nat) (gbe : Int32) (gwo : Int32) (gta : Int64) (gn : Nat) (glr : Int32) (glc : Int32) (gti : Int32) (ggo : Int32) (gR : Nat) (gch : Int32) (gD : Nat) (gnr : Int32) (gnk : Int32) (gnc : Int32) (gng : Int32) (gns : Int32) (gna : Nat) (gnb : Nat) (gnad : Nat → Nat) (gnan : Nat) (gnak : Nat) (gnaG : Nat → Nat → Int32) (gnbd : Nat → Nat) (gnbn : Nat) (gnbk : Nat) (gnbG : Nat → Nat → Int32) {res : Int32} (hR : fX9_beatsFrom glr glc gti gnr gnk gnc gng gns gnan gnak gnaG gnbn gnbk gnbG = some res) : YM l D cy yX9_beatsFrom hX9_beatsFrom 4 0 0 [.ref g] [[(g, .inr (11, [.int gth, .ref gw, .ref gB, .ref gK, .ref gU, .ref gS, .int gbe, .int gwo, .long gta, .ref gn, .int glr, .int glc, .int gti, .int ggo, .ref gR, .int gch, .ref gD]))], [(gn, .inr (10, [.int gnr, .int gnk, .int gnc, .int gng, .int gns, .ref gna, .ref gnb]))], [(gna, .inl (cy 3, gnan, .inr (.inr (.inr (.inr (yad gnad))))))], xg_rows gnad gnan (cy 1) gnak gnaG, [(gnb, .inl (cy 3, gnbn, .inr (.inr (.inr (.inr (yad gnbd))))))], xg_rows gnbd gnbn (cy 1) gnbk gnbG] (fun v u => v = some (.int res) ∧ u = [[(g, .inr (11, [.int gth, .ref gw, .ref gB, .ref gK, .ref gU, .ref gS, .int gbe, .int gwo, .long gta, .ref gn, .int glr, .int glc, .int gti, .int ggo, .ref gR, .int gch, .ref gD]))], [(gn, .inr (10, [.int gnr, .int gnk, .int gnc, .int gng, .int gns, .ref gna, .ref gnb]))], [(gna, .inl (cy 3, gnan, .inr (.inr (.inr (.inr (yad gnad))))))], xg_rows gnad gnan (cy 1) gnak gnaG, [(gnb, .inl (cy 3, gnbn, .inr (.inr (.inr (.inr (yad gnbd))))))], xg_rows gnbd gnbn (cy 1) gnbk gnbG]) := by
  unfold fX9_beatsFrom at hR
  refine YM.ofI (cc := cX9_beatsFrom) (maxL := 4) (ret := (some .int)) (by decide +kernel) rfl (Nat.le_of_ble_eq_true rfl) [(0, .ref g)] rfl rfl (fun p e s m args below meth c A H0 Q C hnm ret => ?_)
  refine xr_iconst (n := 1) (v := 0) C dd_X9_beatsFrom_0.1 rfl rfl ?_
  refine xr_istore_n (n := 2) C [(1, .int 0), (0, .ref g)] dd_X9_beatsFrom_0.2.1 (by decide) rfl rfl ?_
  refine xr_aload_n (n := 3) (j := 1) C dd_X9_beatsFrom_0.2.2.1 rfl rfl ?_
  refine xr_get (n := 6) C 0 rfl rfl 9 (by decide) in_X9 u_1246 rfl (v := .ref gn) rfl dd_X9_beatsFrom_0.2.2.2.1 rfl ?_
  obtain ⟨x_1, hx_1, hR⟩ := yf_b hR
  refine xr_callVp (n := 9) (As := []) (rest := []) C (kX8_columns l D cy (w := gn) (wr := gnr) (wk := gnk) (wc := gnc) (wg := gng) (ws := gns) (wa := gna) (wb := gnb) hx_1) mX8_columns u_1391 u_1392 u_1393 1 rfl rfl 6 [1] [0, 2, 3, 4, 5] rfl (by decide +kernel) rfl rfl rfl rfl (Nat.le_of_ble_eq_true rfl) (Nat.le_of_ble_eq_true rfl) (Nat.le_of_ble_eq_true rfl) (Nat.le_of_ble_eq_true rfl) (Nat.le_of_ble_eq_true rfl) dd_X9_beatsFrom_0.2.2.2.2.1 rfl (fun _ _ hp => hp.2) (fun v_2 hp_4 => ?_)
  obtain ⟨rfl, -⟩ := hp_4
  refine xr_st (st' := [.int x_1]) rfl ?_
  refine xr_aload_n (n := 10) (j := 1) C dd_X9_beatsFrom_0.2.2.2.2.2.1 rfl rfl ?_
  obtain ⟨x_5, hx_5, hR⟩ := yf_b hR
  refine xr_callVp (n := 13) (As := []) (rest := [.int x_1]) C (kX9_w l D cy (g := g) (gth := gth) (gw := gw) (gB := gB) (gK := gK) (gU := gU) (gS := gS) (gbe := gbe) (gwo := gwo) (gta := gta) (gn := gn) (glr := glr) (glc := glc) (gti := gti) (ggo := ggo) (gR := gR) (gch := gch) (gD := gD) hx_5) mX9_w u_1426 u_1428 u_37 0 rfl rfl 6 [0] [1, 2, 3, 4, 5] rfl (by decide +kernel) rfl rfl rfl rfl (Nat.le_of_ble_eq_true rfl) (Nat.le_of_ble_eq_true rfl) (Nat.le_of_ble_eq_true rfl) (Nat.le_of_ble_eq_true rfl) (Nat.le_of_ble_eq_true rfl) dd_X9_beatsFrom_0.2.2.2.2.2.2.1 rfl (fun _ _ hp => hp.2) (fun v_6 hp_8 => ?_)
  obtain ⟨rfl, -⟩ := hp_8
  refine xr_st (st' := [.int x_5, .int x_1]) rfl ?_
  obtain ⟨x_9, hx_9, hR⟩ := yf_b hR
  refine xr_callSp (n := 16) (As := [.int x_1, .int x_5]) (rest := []) C (kX9_tiles l D cy (i1 := x_1) (i2 := x_5) hx_9) mX9_tiles u_1388 u_1389 6 [] [0, 1, 2, 3, 4, 5] rfl (by decide +kernel) rfl rfl rfl rfl (Nat.le_of_ble_eq_true rfl) (Nat.le_of_ble_eq_true rfl) (Nat.le_of_ble_eq_true rfl) (Nat.le_of_ble_eq_true rfl) (Nat.le_of_ble_eq_true rfl) dd_X9_beatsFrom_0.2.2.2.2.2.2.2.1 rfl (fun _ _ hp => hp.2) (fun v_10 hp_12 => ?_)
  obtain ⟨rfl, -⟩ := hp_12
  refine xr_st (st' := [.int x_9]) rfl ?_
  refine xr_istore_n (n := 17) C [(2, .int x_9), (1, .int 0), (0, .ref g)] dd_X9_beatsFrom_0.2.2.2.2.2.2.2.2.1 (by decide) rfl rfl ?_
  refine xr_aload_n (n := 18) (j := 2) C dd_X9_beatsFrom_0.2.2.2.2.2.2.2.2.2.1 rfl rfl ?_
  refine xr_get (n := 21) C 0 rfl rfl 12 (by decide) in_X9 u_1249 rfl (v := .int gti) rfl dd_X9_beatsFrom_0.2.2.2.2.2.2.2.2.2.2.1 rfl ?_
  refine xr_istore_n (n := 22) C [(3, .int gti), (2, .int x_9), (1, .int 0), (0, .ref g)] dd_X9_beatsFrom_0.2.2.2.2.2.2.2.2.2.2.2.1 (by decide) rfl rfl ?_
  refine xr_lv (lv' := [(0, .ref g), (1, .int 0), (2, .int x_9), (3, .int gti)]) [3, 2, 1, 0] rfl ?_
  obtain ⟨b_13, hb_13, hR⟩ := yf_b hR
  have K_13 : X p l e (yR 4 0 0) s m args below meth c D A H0 4 Q [[(g, .inr (11, [.int gth, .ref gw, .ref gB, .ref gK, .ref gU, .ref gS, .int gbe, .int gwo, .long gta, .ref gn, .int glr, .int glc, .int gti, .int ggo, .ref gR, .int gch, .ref gD]))], [(gn, .inr (10, [.int gnr, .int gnk, .int gnc, .int gng, .int gns, .ref gna, .ref gnb]))], [(gna, .inl (cy 3, gnan, .inr (.inr (.inr (.inr (yad gnad))))))], xg_rows gnad gnan (cy 1) gnak gnaG, [(gnb, .inl (cy 3, gnbn, .inr (.inr (.inr (.inr (yad gnbd))))))], xg_rows gnbd gnbn (cy 1) gnbk gnbG] 0 0 [(1, .int b_13.1)] 96 [] := by
    refine xr_iload_n (n := 97) (j := 0) C dd_X9_beatsFrom_3.2.2.2.2.1 rfl rfl ?_
    obtain rfl := Option.some.inj hR
    exact ret b_13.1 ⟨rfl, rfl⟩ (Nat.le_of_ble_eq_true rfl) (Nat.le_of_ble_eq_true rfl) dd_X9_beatsFrom_3.2.2.2.2.2.1
  refine y_loop (P := fun (s_13 : Int32 × Int32) => X p l e (yR 4 0 0) s m args below meth c D A H0 4 Q [[(g, .inr (11, [.int gth, .ref gw, .ref gB, .ref gK, .ref gU, .ref gS, .int gbe, .int gwo, .long gta, .ref gn, .int glr, .int glc, .int gti, .int ggo, .ref gR, .int gch, .ref gD]))], [(gn, .inr (10, [.int gnr, .int gnk, .int gnc, .int gng, .int gns, .ref gna, .ref gnb]))], [(gna, .inl (cy 3, gnan, .inr (.inr (.inr (.inr (yad gnad))))))], xg_rows gnad gnan (cy 1) gnak gnaG, [(gnb, .inl (cy 3, gnbn, .inr (.inr (.inr (.inr (yad gnbd))))))], xg_rows gnbd gnbn (cy 1) gnbk gnbG] 0 0 [(0, .ref g), (1, .int s_13.1), (2, .int x_9), (3, .int s_13.2)] 22 []) ?_ _ (0, gti) hb_13
  intro s_13 o_13 ho_13 hk_13 hx_13
  refine xr_iload_n (n := 23) (j := 3) C dd_X9_beatsFrom_0.2.2.2.2.2.2.2.2.2.2.2.2.1 rfl rfl ?_
  refine xr_aload_n (n := 24) (j := 0) C dd_X9_beatsFrom_0.2.2.2.2.2.2.2.2.2.2.2.2.2.1 rfl rfl ?_
  refine xr_get (n := 27) C 0 rfl rfl 9 (by decide) in_X9 u_1246 rfl (v := .ref gn) rfl dd_X9_beatsFrom_0.2.2.2.2.2.2.2.2.2.2.2.2.2.2.1 rfl ?_
  obtain ⟨x_14, hx_14, ho_13⟩ := yf_b ho_13
  refine xr_callVp (n := 30) (As := []) (rest := [.int s_13.2]) C (kX8_rows l D cy (w := gn) (wr := gnr) (wk := gnk) (wc := gnc) (wg := gng) (ws := gns) (wa := gna) (wb := gnb) hx_14) mX8_rows u_1384 u_1385 u_1386 1 rfl rfl 6 [1] [0, 2, 3, 4, 5] rfl (by decide +kernel) rfl rfl rfl rfl (Nat.le_of_ble_eq_true rfl) (Nat.le_of_ble_eq_true rfl) (Nat.le_of_ble_eq_true rfl) (Nat.le_of_ble_eq_true rfl) (Nat.le_of_ble_eq_true rfl) dd_X9_beatsFrom_0.2.2.2.2.2.2.2.2.2.2.2.2.2.2.2.1 rfl (fun _ _ hp => hp.2) (fun v_15 hp_17 => ?_)
  obtain ⟨rfl, -⟩ := hp_17
  refine xr_st (st' := [.int x_14, .int s_13.2]) rfl ?_
  refine xr_aload_n (n := 31) (j := 0) C dd_X9_beatsFrom_1.1 rfl rfl ?_
  obtain ⟨x_18, hx_18, ho_13⟩ := yf_b ho_13
  refine xr_callVp (n := 34) (As := []) (rest := [.int x_14, .int s_13.2]) C (kX9_h l D cy (g := g) (gth := gth) (gw := gw) (gB := gB) (gK := gK) (gU := gU) (gS := gS) (gbe := gbe) (gwo := gwo) (gta := gta) (gn := gn) (glr := glr) (glc := glc) (gti := gti) (ggo := ggo) (gR := gR) (gch := gch) (gD := gD) hx_18) mX9_h u_1430 u_1432 u_38 0 rfl rfl 6 [0] [1, 2, 3, 4, 5] rfl (by decide +kernel) rfl rfl rfl rfl (Nat.le_of_ble_eq_true rfl) (Nat.le_of_ble_eq_true rfl) (Nat.le_of_ble_eq_true rfl) (Nat.le_of_ble_eq_true rfl) (Nat.le_of_ble_eq_true rfl) dd_X9_beatsFrom_1.2.1 rfl (fun _ _ hp => hp.2) (fun v_19 hp_21 => ?_)
  obtain ⟨rfl, -⟩ := hp_21
  refine xr_st (st' := [.int x_18, .int x_14, .int s_13.2]) rfl ?_
  obtain ⟨x_22, hx_22, ho_13⟩ := yf_b ho_13
  refine xr_callSp (n := 37) (As := [.int x_14, .int x_18]) (rest := [.int s_13.2]) C (kX9_tiles l D cy (i1 := x_14) (i2 := x_18) hx_22) mX9_tiles u_1388 u_1389 6 [] [0, 1, 2, 3, 4, 5] rfl (by decide +kernel) rfl rfl rfl rfl (Nat.le_of_ble_eq_true rfl) (Nat.le_of_ble_eq_true rfl) (Nat.le_of_ble_eq_true rfl) (Nat.le_of_ble_eq_true rfl) (Nat.le_of_ble_eq_true rfl) dd_X9_beatsFrom_1.2.2.1 rfl (fun _ _ hp => hp.2) (fun v_23 hp_25 => ?_)
  obtain ⟨rfl, -⟩ := hp_25
  refine xr_st (st' := [.int x_22, .int s_13.2]) rfl ?_
  refine xr_iload_n (n := 38) (j := 2) C dd_X9_beatsFrom_1.2.2.2.1 rfl rfl ?_
  refine xr_imul (n := 39) C dd_X9_beatsFrom_1.2.2.2.2.1 rfl ?_
  refine xr_icmp_ge (tgt := 96) (n := 42) C dd_X9_beatsFrom_1.2.2.2.2.2.1 rfl rfl (fun c_26 => ?_) (fun c_26 => ?_)
  · replace ho_13 := yf_t c_26 ho_13
    refine xr_lv (lv' := [(1, .int s_13.1)]) [1] rfl ?_
    have e_27 := hx_13 _ (Option.some.inj ho_13).symm
    subst e_27
    exact K_13
  · replace ho_13 := yf_f c_26 ho_13
    refine xr_iload_n (n := 43) (j := 1) C dd_X9_beatsFrom_1.2.2.2.2.2.2.1 rfl rfl ?_
    refine xr_aload_n (n := 44) (j := 0) C dd_X9_beatsFrom_1.2.2.2.2.2.2.2.1 rfl rfl ?_
    refine xr_get (n := 47) C 0 rfl rfl 9 (by decide) in_X9 u_1246 rfl (v := .ref gn) rfl dd_X9_beatsFrom_1.2.2.2.2.2.2.2.2.1 rfl ?_
    obtain ⟨x_28, hx_28, ho_13⟩ := yf_b ho_13
    refine xr_callVp (n := 50) (As := []) (rest := [.int s_13.1]) C (kX8_rows l D cy (w := gn) (wr := gnr) (wk := gnk) (wc := gnc) (wg := gng) (ws := gns) (wa := gna) (wb := gnb) hx_28) mX8_rows u_1384 u_1385 u_1386 1 rfl rfl 6 [1] [0, 2, 3, 4, 5] rfl (by decide +kernel) rfl rfl rfl rfl (Nat.le_of_ble_eq_true rfl) (Nat.le_of_ble_eq_true rfl) (Nat.le_of_ble_eq_true rfl) (Nat.le_of_ble_eq_true rfl) (Nat.le_of_ble_eq_true rfl) dd_X9_beatsFrom_1.2.2.2.2.2.2.2.2.2.1 rfl (fun _ _ hp => hp.2) (fun v_29 hp_31 => ?_)
    obtain ⟨rfl, -⟩ := hp_31
    refine xr_st (st' := [.int x_28, .int s_13.1]) rfl ?_
    refine xr_aload_n (n := 51) (j := 0) C dd_X9_beatsFrom_1.2.2.2.2.2.2.2.2.2.2.1 rfl rfl ?_
    obtain ⟨x_32, hx_32, ho_13⟩ := yf_b ho_13
    refine xr_callVp (n := 54) (As := []) (rest := [.int x_28, .int s_13.1]) C (kX9_h l D cy (g := g) (gth := gth) (gw := gw) (gB := gB) (gK := gK) (gU := gU) (gS := gS) (gbe := gbe) (gwo := gwo) (gta := gta) (gn := gn) (glr := glr) (glc := glc) (gti := gti) (ggo := ggo) (gR := gR) (gch := gch) (gD := gD) hx_32) mX9_h u_1430 u_1432 u_38 0 rfl rfl 6 [0] [1, 2, 3, 4, 5] rfl (by decide +kernel) rfl rfl rfl rfl (Nat.le_of_ble_eq_true rfl) (Nat.le_of_ble_eq_true rfl) (Nat.le_of_ble_eq_true rfl) (Nat.le_of_ble_eq_true rfl) (Nat.le_of_ble_eq_true rfl) dd_X9_beatsFrom_1.2.2.2.2.2.2.2.2.2.2.2.1 rfl (fun _ _ hp => hp.2) (fun v_33 hp_35 => ?_)
    obtain ⟨rfl, -⟩ := hp_35
    refine xr_st (st' := [.int x_32, .int x_28, .int s_13.1]) rfl ?_
    refine xr_iload_n (n := 55) (j := 3) C dd_X9_beatsFrom_1.2.2.2.2.2.2.2.2.2.2.2.2.1 rfl rfl ?_
    refine xr_iload_n (n := 56) (j := 2) C dd_X9_beatsFrom_1.2.2.2.2.2.2.2.2.2.2.2.2.2.1 rfl rfl ?_
    obtain ⟨g_36, ho_13⟩ := yf_g ho_13
    refine xr_idiv (n := 57) C dd_X9_beatsFrom_1.2.2.2.2.2.2.2.2.2.2.2.2.2.2.1 g_36 rfl ?_
    obtain ⟨x_37, hx_37, ho_13⟩ := yf_b ho_13
    refine xr_callSp (n := 60) (As := [.int x_28, .int x_32, .int (s_13.2 / x_9)]) (rest := [.int s_13.1]) C (kX9_size l D cy (i1 := x_28) (i2 := x_32) (i3 := s_13.2 / x_9) hx_37) mX9_size u_1395 u_1396 6 [] [0, 1, 2, 3, 4, 5] rfl (by decide +kernel) rfl rfl rfl rfl (Nat.le_of_ble_eq_true rfl) (Nat.le_of_ble_eq_true rfl) (Nat.le_of_ble_eq_true rfl) (Nat.le_of_ble_eq_true rfl) (Nat.le_of_ble_eq_true rfl) dd_X9_beatsFrom_1.2.2.2.2.2.2.2.2.2.2.2.2.2.2.2.1 rfl (fun _ _ hp => hp.2) (fun v_38 hp_40 => ?_)
    obtain ⟨rfl, -⟩ := hp_40
    refine xr_st (st' := [.int x_37, .int s_13.1]) rfl ?_
    refine xr_aload_n (n := 61) (j := 0) C dd_X9_beatsFrom_2.1 rfl rfl ?_
    refine xr_get (n := 64) C 0 rfl rfl 9 (by decide) in_X9 u_1246 rfl (v := .ref gn) rfl dd_X9_beatsFrom_2.2.1 rfl ?_
    obtain ⟨x_41, hx_41, ho_13⟩ := yf_b ho_13
    refine xr_callVp (n := 67) (As := []) (rest := [.int x_37, .int s_13.1]) C (kX8_columns l D cy (w := gn) (wr := gnr) (wk := gnk) (wc := gnc) (wg := gng) (ws := gns) (wa := gna) (wb := gnb) hx_41) mX8_columns u_1391 u_1392 u_1393 1 rfl rfl 6 [1] [0, 2, 3, 4, 5] rfl (by decide +kernel) rfl rfl rfl rfl (Nat.le_of_ble_eq_true rfl) (Nat.le_of_ble_eq_true rfl) (Nat.le_of_ble_eq_true rfl) (Nat.le_of_ble_eq_true rfl) (Nat.le_of_ble_eq_true rfl) dd_X9_beatsFrom_2.2.2.1 rfl (fun _ _ hp => hp.2) (fun v_42 hp_44 => ?_)
    obtain ⟨rfl, -⟩ := hp_44
    refine xr_st (st' := [.int x_41, .int x_37, .int s_13.1]) rfl ?_
    refine xr_aload_n (n := 68) (j := 0) C dd_X9_beatsFrom_2.2.2.2.1 rfl rfl ?_
    obtain ⟨x_45, hx_45, ho_13⟩ := yf_b ho_13
    refine xr_callVp (n := 71) (As := []) (rest := [.int x_41, .int x_37, .int s_13.1]) C (kX9_w l D cy (g := g) (gth := gth) (gw := gw) (gB := gB) (gK := gK) (gU := gU) (gS := gS) (gbe := gbe) (gwo := gwo) (gta := gta) (gn := gn) (glr := glr) (glc := glc) (gti := gti) (ggo := ggo) (gR := gR) (gch := gch) (gD := gD) hx_45) mX9_w u_1426 u_1428 u_37 0 rfl rfl 6 [0] [1, 2, 3, 4, 5] rfl (by decide +kernel) rfl rfl rfl rfl (Nat.le_of_ble_eq_true rfl) (Nat.le_of_ble_eq_true rfl) (Nat.le_of_ble_eq_true rfl) (Nat.le_of_ble_eq_true rfl) (Nat.le_of_ble_eq_true rfl) dd_X9_beatsFrom_2.2.2.2.2.1 rfl (fun _ _ hp => hp.2) (fun v_46 hp_48 => ?_)
    obtain ⟨rfl, -⟩ := hp_48
    refine xr_st (st' := [.int x_45, .int x_41, .int x_37, .int s_13.1]) rfl ?_
    refine xr_iload_n (n := 72) (j := 3) C dd_X9_beatsFrom_2.2.2.2.2.2.1 rfl rfl ?_
    refine xr_iload_n (n := 73) (j := 2) C dd_X9_beatsFrom_2.2.2.2.2.2.2.1 rfl rfl ?_
    obtain ⟨g_49, ho_13⟩ := yf_g ho_13
    refine xr_irem (n := 74) C dd_X9_beatsFrom_2.2.2.2.2.2.2.2.1 g_49 rfl ?_
    obtain ⟨x_50, hx_50, ho_13⟩ := yf_b ho_13
    refine xr_callSp (n := 77) (As := [.int x_41, .int x_45, .int (s_13.2 - s_13.2 / x_9 * x_9)]) (rest := [.int x_37, .int s_13.1]) C (kX9_size l D cy (i1 := x_41) (i2 := x_45) (i3 := s_13.2 - s_13.2 / x_9 * x_9) hx_50) mX9_size u_1395 u_1396 6 [] [0, 1, 2, 3, 4, 5] rfl (by decide +kernel) rfl rfl rfl rfl (Nat.le_of_ble_eq_true rfl) (Nat.le_of_ble_eq_true rfl) (Nat.le_of_ble_eq_true rfl) (Nat.le_of_ble_eq_true rfl) (Nat.le_of_ble_eq_true rfl) dd_X9_beatsFrom_2.2.2.2.2.2.2.2.2.1 rfl (fun _ _ hp => hp.2) (fun v_51 hp_53 => ?_)
    obtain ⟨rfl, -⟩ := hp_53
    refine xr_st (st' := [.int x_50, .int x_37, .int s_13.1]) rfl ?_
    refine xr_iadd (n := 78) C dd_X9_beatsFrom_2.2.2.2.2.2.2.2.2.2.1 rfl ?_
    refine xr_aload_n (n := 79) (j := 0) C dd_X9_beatsFrom_2.2.2.2.2.2.2.2.2.2.2.1 rfl rfl ?_
    refine xr_get (n := 82) C 0 rfl rfl 9 (by decide) in_X9 u_1246 rfl (v := .ref gn) rfl dd_X9_beatsFrom_2.2.2.2.2.2.2.2.2.2.2.2.1 rfl ?_
    obtain ⟨x_54, hx_54, ho_13⟩ := yf_b ho_13
    refine xr_callVp (n := 85) (As := []) (rest := [.int (x_37 + x_50), .int s_13.1]) C (kX8_steps l D cy (w := gn) (wr := gnr) (wk := gnk) (wc := gnc) (wg := gng) (ws := gns) (wa := gna) (wb := gnb) (wad := gnad) (wan := gnan) (wak := gnak) (waG := gnaG) (wbd := gnbd) (wbn := gnbn) (wbk := gnbk) (wbG := gnbG) hx_54) mX8_steps u_1359 u_1360 u_1361 1 rfl rfl 6 [1, 2, 3, 4, 5] [0] rfl (by decide +kernel) rfl rfl rfl rfl (Nat.le_of_ble_eq_true rfl) (Nat.le_of_ble_eq_true rfl) (Nat.le_of_ble_eq_true rfl) (Nat.le_of_ble_eq_true rfl) (Nat.le_of_ble_eq_true rfl) dd_X9_beatsFrom_2.2.2.2.2.2.2.2.2.2.2.2.2.1 rfl (fun _ _ hp => hp.2) (fun v_55 hp_57 => ?_)
    obtain ⟨rfl, -⟩ := hp_57
    refine xr_st (st' := [.int x_54, .int (x_37 + x_50), .int s_13.1]) rfl ?_
    refine xr_iadd (n := 86) C dd_X9_beatsFrom_2.2.2.2.2.2.2.2.2.2.2.2.2.2.1 rfl ?_
    refine xr_iconst (n := 87) (v := 1) C dd_X9_beatsFrom_2.2.2.2.2.2.2.2.2.2.2.2.2.2.2.1 rfl rfl ?_
    refine xr_isub (n := 88) C dd_X9_beatsFrom_2.2.2.2.2.2.2.2.2.2.2.2.2.2.2.2.1 rfl ?_
    refine xr_iadd (n := 89) C dd_X9_beatsFrom_3.1 rfl ?_
    refine xr_istore_n (n := 90) C [(1, .int (s_13.1 + (((x_37 + x_50) + x_54) - 1))), (0, .ref g), (2, .int x_9), (3, .int s_13.2)] dd_X9_beatsFrom_3.2.1 (by decide) rfl rfl ?_
    refine xr_iinc (j := 3) (v := s_13.2 + 1) (n := 93) C [(3, .int (s_13.2 + 1)), (1, .int (s_13.1 + (((x_37 + x_50) + x_54) - 1))), (0, .ref g), (2, .int x_9)] dd_X9_beatsFrom_3.2.2.1 rfl rfl (by decide) rfl rfl ?_
    refine xr_goto (tgt := 22) C dd_X9_beatsFrom_3.2.2.2.1 rfl ?_
    refine xr_lv (lv' := [(0, .ref g), (1, .int (s_13.1 + (((x_37 + x_50) + x_54) - 1))), (2, .int x_9), (3, .int (s_13.2 + 1))]) [2, 1, 3, 0] rfl ?_
    exact hk_13 (s_13.1 + (((x_37 + x_50) + x_54) - 1), s_13.2 + 1) (Option.some.inj ho_13).symm
theorem dd_X9_left__0 : dk_R cX9_left_ [(0, .aload_n 0, 1), (1, .getfield 137, 3), (4, .ifnonnull 7, 3), (7, .iconst 0, 1), (8, .goto 12, 3), (11, .aload_n 0, 1), (12, .invokevirtual 190, 3), (15, .aload_n 0, 1), (16, .getfield 167, 3), (19, .isub, 1), (20, .ireturn, 1)] := dk_use _ _ (by decide +kernel)
def fX9_rest_i  : Option (Int32) := some 0
abbrev hX9_left_ : Cond := .code yX9_left_ cX9_left_ 1 (some .int)
theorem mX9_left_ : yM yX9_left_ hX9_left_ 0 := ⟨u_1421, u_64, by decide +kernel, by decide +kernel, by decide +kernel⟩
set_option maxHeartbeats 4000000 in
set_option maxRecDepth 100000 in
theorem kX9_rest_i (l : Launch) (D : va_G) (cy : Nat → ClassId) (g : Nat) (gth : Int32) (gw : Nat) (gB : Nat) (gK : Nat) (gU : Nat) (gS : Nat) (gbe : Int32) (gwo : Int32) (gta : Int64) (glr : Int32) (glc : Int32) (gti : Int32) (ggo : Int32) (gR : Nat) (gch : Int32) (gD : Nat) {res : Int32} (hR : fX9_rest_i  = some res) : YM l D cy yX9_left_ hX9_left_ 1 0 0 [.ref g] [[(g, .inr (11, [.int gth, .ref gw, .ref gB, .ref gK, .ref gU, .ref gS, .int gbe, .int gwo, .long gta, .null, .int glr, .int glc, .int gti, .int ggo, .ref gR, .int gch, .ref gD]))]] (fun v u => v = some (.int res) ∧ u = [[(g, .inr (11, [.int gth, .ref gw, .ref gB, .ref gK, .ref gU, .ref gS, .int gbe, .int gwo, .long gta, .null, .int glr, .int glc, .int gti, .int ggo, .ref gR, .int gch, .ref gD]))]]) := by
  unfold fX9_rest_i at hR
  refine YM.ofI (cc := cX9_left_) (maxL := 1) (ret := (some .int)) (by decide +kernel) rfl (Nat.le_of_ble_eq_true rfl) [(0, .ref g)] rfl rfl (fun p e s m args below meth c A H0 Q C hnm ret => ?_)
  refine xr_aload_n (n := 1) (j := 0) C dd_X9_left__0.1 rfl rfl ?_
  refine xr_get (n := 4) C 0 rfl rfl 9 (by decide) in_X9 u_1246 rfl (v := .null) rfl dd_X9_left__0.2.1 rfl ?_
  refine xr_ifnonnullN (n := 7) C dd_X9_left__0.2.2.1 rfl ?_
  refine xr_iconst (n := 8) (v := 0) C dd_X9_left__0.2.2.2.1 rfl rfl ?_
  refine xr_goto (tgt := 20) C dd_X9_left__0.2.2.2.2.1 rfl ?_
  obtain rfl := Option.some.inj hR
  exact ret 0 ⟨rfl, rfl⟩ (Nat.le_of_ble_eq_true rfl) (Nat.le_of_ble_eq_true rfl) dd_X9_left__0.2.2.2.2.2.2.2.2.2.2.1
def fX9_rest_r (glr : Int32) (glc : Int32) (gti : Int32) (ggo : Int32) (gnr : Int32) (gnk : Int32) (gnc : Int32) (gng : Int32) (gns : Int32) (gnan : Nat) (gnak : Nat) (gnaG : Nat → Nat → Int32) (gnbn : Nat) (gnbk : Nat) (gnbG : Nat → Nat → Int32) : Option (Int32) := ((fX9_beatsFrom glr glc gti gnr gnk gnc gng gns gnan gnak gnaG gnbn gnbk gnbG).bind fun x_1 => some (x_1 - ggo))
set_option maxHeartbeats 4000000 in
set_option maxRecDepth 100000 in
theorem kX9_rest_r (l : Launch) (D : va_G) (cy : Nat → ClassId) (g : Nat) (gth : Int32) (gw : Nat) (gB : Nat) (gK : Nat) (gU : Nat) (gS : Nat) (gbe : Int32) (gwo : Int32) (gta : Int64) (gn : Nat) (glr : Int32) (glc : Int32) (gti : Int32) (ggo : Int32) (gR : Nat) (gch : Int32) (gD : Nat) (gnr : Int32) (gnk : Int32) (gnc : Int32) (gng : Int32) (gns : Int32) (gna : Nat) (gnb : Nat) (gnad : Nat → Nat) (gnan : Nat) (gnak : Nat) (gnaG : Nat → Nat → Int32) (gnbd : Nat → Nat) (gnbn : Nat) (gnbk : Nat) (gnbG : Nat → Nat → Int32) {res : Int32} (hR : fX9_rest_r glr glc gti ggo gnr gnk gnc gng gns gnan gnak gnaG gnbn gnbk gnbG = some res) : YM l D cy yX9_left_ hX9_left_ 5 0 0 [.ref g] [[(g, .inr (11, [.int gth, .ref gw, .ref gB, .ref gK, .ref gU, .ref gS, .int gbe, .int gwo, .long gta, .ref gn, .int glr, .int glc, .int gti, .int ggo, .ref gR, .int gch, .ref gD]))], [(gn, .inr (10, [.int gnr, .int gnk, .int gnc, .int gng, .int gns, .ref gna, .ref gnb]))], [(gna, .inl (cy 3, gnan, .inr (.inr (.inr (.inr (yad gnad))))))], xg_rows gnad gnan (cy 1) gnak gnaG, [(gnb, .inl (cy 3, gnbn, .inr (.inr (.inr (.inr (yad gnbd))))))], xg_rows gnbd gnbn (cy 1) gnbk gnbG] (fun v u => v = some (.int res) ∧ u = [[(g, .inr (11, [.int gth, .ref gw, .ref gB, .ref gK, .ref gU, .ref gS, .int gbe, .int gwo, .long gta, .ref gn, .int glr, .int glc, .int gti, .int ggo, .ref gR, .int gch, .ref gD]))], [(gn, .inr (10, [.int gnr, .int gnk, .int gnc, .int gng, .int gns, .ref gna, .ref gnb]))], [(gna, .inl (cy 3, gnan, .inr (.inr (.inr (.inr (yad gnad))))))], xg_rows gnad gnan (cy 1) gnak gnaG, [(gnb, .inl (cy 3, gnbn, .inr (.inr (.inr (.inr (yad gnbd))))))], xg_rows gnbd gnbn (cy 1) gnbk gnbG]) := by
  unfold fX9_rest_r at hR
  refine YM.ofI (cc := cX9_left_) (maxL := 1) (ret := (some .int)) (by decide +kernel) rfl (Nat.le_of_ble_eq_true rfl) [(0, .ref g)] rfl rfl (fun p e s m args below meth c A H0 Q C hnm ret => ?_)
  refine xr_aload_n (n := 1) (j := 0) C dd_X9_left__0.1 rfl rfl ?_
  refine xr_get (n := 4) C 0 rfl rfl 9 (by decide) in_X9 u_1246 rfl (v := .ref gn) rfl dd_X9_left__0.2.1 rfl ?_
  refine xr_ifnonnull (tgt := 11) C dd_X9_left__0.2.2.1 rfl ?_
  refine xr_aload_n (n := 12) (j := 0) C dd_X9_left__0.2.2.2.2.2.1 rfl rfl ?_
  obtain ⟨x_1, hx_1, hR⟩ := yf_b hR
  refine xr_callVp (n := 15) (As := []) (rest := []) C (kX9_beatsFrom l D cy (g := g) (gth := gth) (gw := gw) (gB := gB) (gK := gK) (gU := gU) (gS := gS) (gbe := gbe) (gwo := gwo) (gta := gta) (gn := gn) (glr := glr) (glc := glc) (gti := gti) (ggo := ggo) (gR := gR) (gch := gch) (gD := gD) (gnr := gnr) (gnk := gnk) (gnc := gnc) (gng := gng) (gns := gns) (gna := gna) (gnb := gnb) (gnad := gnad) (gnan := gnan) (gnak := gnak) (gnaG := gnaG) (gnbd := gnbd) (gnbn := gnbn) (gnbk := gnbk) (gnbG := gnbG) hx_1) mX9_beatsFrom u_1422 u_1424 u_36 0 rfl rfl 6 [0, 1, 2, 3, 4, 5] [] rfl (by decide +kernel) rfl rfl rfl rfl (Nat.le_of_ble_eq_true rfl) (Nat.le_of_ble_eq_true rfl) (Nat.le_of_ble_eq_true rfl) (Nat.le_of_ble_eq_true rfl) (Nat.le_of_ble_eq_true rfl) dd_X9_left__0.2.2.2.2.2.2.1 rfl (fun _ _ hp => hp.2) (fun v_2 hp_4 => ?_)
  obtain ⟨rfl, -⟩ := hp_4
  refine xr_st (st' := [.int x_1]) rfl ?_
  refine xr_aload_n (n := 16) (j := 0) C dd_X9_left__0.2.2.2.2.2.2.2.1 rfl rfl ?_
  refine xr_get (n := 19) C 0 rfl rfl 13 (by decide) in_X9 u_1250 rfl (v := .int ggo) rfl dd_X9_left__0.2.2.2.2.2.2.2.2.1 rfl ?_
  refine xr_isub (n := 20) C dd_X9_left__0.2.2.2.2.2.2.2.2.2.1 rfl ?_
  obtain rfl := Option.some.inj hR
  exact ret (x_1 - ggo) ⟨rfl, rfl⟩ (Nat.le_of_ble_eq_true rfl) (Nat.le_of_ble_eq_true rfl) dd_X9_left__0.2.2.2.2.2.2.2.2.2.2.1
theorem dd_X9_stepTaken_0 : dk_R cX9_stepTaken [(0, .iload_n 1, 1), (1, .iload_n 2, 1), (2, .isub, 1), (3, .iload_n 3, 1), (4, .isub, 1), (5, .iconst 0, 1), (6, .aload_n 0, 1), (7, .getfield 137, 3), (10, .invokevirtual 120, 3), (13, .iconst 1, 1), (14, .isub, 1), (15, .invokestatic 75, 3), (18, .ifCond .eq 11, 3), (21, .iload_n 1, 1), (22, .iload_n 2, 1), (23, .isub, 1)] := dk_use _ _ (by decide +kernel)
theorem dd_X9_stepTaken_1 : dk_R cX9_stepTaken [(24, .iload_n 3, 1), (25, .isub, 1), (26, .goto 4, 3), (29, .iconst (-1), 1), (30, .ireturn, 1)] := dk_use _ _ (by decide +kernel)
def fX9_stepTaken (gnk : Int32) (gng : Int32) (gnan : Nat) (gnak : Nat) (gnaG : Nat → Nat → Int32) (gnbn : Nat) (gnbk : Nat) (gnbG : Nat → Nat → Int32) (i1 : Int32) (i2 : Int32) (i3 : Int32) : Option (Int32) := ((fX8_steps gnk gng gnan gnak gnaG gnbn gnbk gnbG).bind fun x_1 => ((fX9_isIn ((i1 - i2) - i3) 0 (x_1 - 1)).bind fun x_5 => (if x_5 = 0 then some (-1) else some ((i1 - i2) - i3))))
abbrev hX9_stepTaken : Cond := .code yX9_stepTaken cX9_stepTaken 4 (some .int)
theorem mX9_stepTaken : yM yX9_stepTaken hX9_stepTaken 3 := ⟨u_1454, u_64, by decide +kernel, by decide +kernel, by decide +kernel⟩
set_option maxHeartbeats 4000000 in
set_option maxRecDepth 100000 in
theorem kX9_stepTaken (l : Launch) (D : va_G) (cy : Nat → ClassId) (g : Nat) (gth : Int32) (gw : Nat) (gB : Nat) (gK : Nat) (gU : Nat) (gS : Nat) (gbe : Int32) (gwo : Int32) (gta : Int64) (gn : Nat) (glr : Int32) (glc : Int32) (gti : Int32) (ggo : Int32) (gR : Nat) (gch : Int32) (gD : Nat) (gnr : Int32) (gnk : Int32) (gnc : Int32) (gng : Int32) (gns : Int32) (gna : Nat) (gnb : Nat) (gnad : Nat → Nat) (gnan : Nat) (gnak : Nat) (gnaG : Nat → Nat → Int32) (gnbd : Nat → Nat) (gnbn : Nat) (gnbk : Nat) (gnbG : Nat → Nat → Int32) (i1 : Int32) (i2 : Int32) (i3 : Int32) {res : Int32} (hR : fX9_stepTaken gnk gng gnan gnak gnaG gnbn gnbk gnbG i1 i2 i3 = some res) : YM l D cy yX9_stepTaken hX9_stepTaken 4 0 0 [.ref g, .int i1, .int i2, .int i3] [[(g, .inr (11, [.int gth, .ref gw, .ref gB, .ref gK, .ref gU, .ref gS, .int gbe, .int gwo, .long gta, .ref gn, .int glr, .int glc, .int gti, .int ggo, .ref gR, .int gch, .ref gD]))], [(gn, .inr (10, [.int gnr, .int gnk, .int gnc, .int gng, .int gns, .ref gna, .ref gnb]))], [(gna, .inl (cy 3, gnan, .inr (.inr (.inr (.inr (yad gnad))))))], xg_rows gnad gnan (cy 1) gnak gnaG, [(gnb, .inl (cy 3, gnbn, .inr (.inr (.inr (.inr (yad gnbd))))))], xg_rows gnbd gnbn (cy 1) gnbk gnbG] (fun v u => v = some (.int res) ∧ u = [[(g, .inr (11, [.int gth, .ref gw, .ref gB, .ref gK, .ref gU, .ref gS, .int gbe, .int gwo, .long gta, .ref gn, .int glr, .int glc, .int gti, .int ggo, .ref gR, .int gch, .ref gD]))], [(gn, .inr (10, [.int gnr, .int gnk, .int gnc, .int gng, .int gns, .ref gna, .ref gnb]))], [(gna, .inl (cy 3, gnan, .inr (.inr (.inr (.inr (yad gnad))))))], xg_rows gnad gnan (cy 1) gnak gnaG, [(gnb, .inl (cy 3, gnbn, .inr (.inr (.inr (.inr (yad gnbd))))))], xg_rows gnbd gnbn (cy 1) gnbk gnbG]) := by
  unfold fX9_stepTaken at hR
  refine YM.ofI (cc := cX9_stepTaken) (maxL := 4) (ret := (some .int)) (by decide +kernel) rfl (Nat.le_of_ble_eq_true rfl) [(0, .ref g), (1, .int i1), (2, .int i2), (3, .int i3)] rfl rfl (fun p e s m args below meth c A H0 Q C hnm ret => ?_)
  refine xr_iload_n (n := 1) (j := 1) C dd_X9_stepTaken_0.1 rfl rfl ?_
  refine xr_iload_n (n := 2) (j := 2) C dd_X9_stepTaken_0.2.1 rfl rfl ?_
  refine xr_isub (n := 3) C dd_X9_stepTaken_0.2.2.1 rfl ?_
  refine xr_iload_n (n := 4) (j := 3) C dd_X9_stepTaken_0.2.2.2.1 rfl rfl ?_
  refine xr_isub (n := 5) C dd_X9_stepTaken_0.2.2.2.2.1 rfl ?_
  refine xr_iconst (n := 6) (v := 0) C dd_X9_stepTaken_0.2.2.2.2.2.1 rfl rfl ?_
  refine xr_aload_n (n := 7) (j := 0) C dd_X9_stepTaken_0.2.2.2.2.2.2.1 rfl rfl ?_
  refine xr_get (n := 10) C 0 rfl rfl 9 (by decide) in_X9 u_1246 rfl (v := .ref gn) rfl dd_X9_stepTaken_0.2.2.2.2.2.2.2.1 rfl ?_
  obtain ⟨x_1, hx_1, hR⟩ := yf_b hR
  refine xr_callVp (n := 13) (As := []) (rest := [.int 0, .int ((i1 - i2) - i3)]) C (kX8_steps l D cy (w := gn) (wr := gnr) (wk := gnk) (wc := gnc) (wg := gng) (ws := gns) (wa := gna) (wb := gnb) (wad := gnad) (wan := gnan) (wak := gnak) (waG := gnaG) (wbd := gnbd) (wbn := gnbn) (wbk := gnbk) (wbG := gnbG) hx_1) mX8_steps u_1359 u_1360 u_1361 1 rfl rfl 6 [1, 2, 3, 4, 5] [0] rfl (by decide +kernel) rfl rfl rfl rfl (Nat.le_of_ble_eq_true rfl) (Nat.le_of_ble_eq_true rfl) (Nat.le_of_ble_eq_true rfl) (Nat.le_of_ble_eq_true rfl) (Nat.le_of_ble_eq_true rfl) dd_X9_stepTaken_0.2.2.2.2.2.2.2.2.1 rfl (fun _ _ hp => hp.2) (fun v_2 hp_4 => ?_)
  obtain ⟨rfl, -⟩ := hp_4
  refine xr_st (st' := [.int x_1, .int 0, .int ((i1 - i2) - i3)]) rfl ?_
  refine xr_iconst (n := 14) (v := 1) C dd_X9_stepTaken_0.2.2.2.2.2.2.2.2.2.1 rfl rfl ?_
  refine xr_isub (n := 15) C dd_X9_stepTaken_0.2.2.2.2.2.2.2.2.2.2.1 rfl ?_
  obtain ⟨x_5, hx_5, hR⟩ := yf_b hR
  refine xr_callSp (n := 18) (As := [.int ((i1 - i2) - i3), .int 0, .int (x_1 - 1)]) (rest := []) C (kX9_isIn l D cy (i1 := (i1 - i2) - i3) (i2 := 0) (i3 := x_1 - 1) hx_5) mX9_isIn u_1298 u_1299 6 [] [0, 1, 2, 3, 4, 5] rfl (by decide +kernel) rfl rfl rfl rfl (Nat.le_of_ble_eq_true rfl) (Nat.le_of_ble_eq_true rfl) (Nat.le_of_ble_eq_true rfl) (Nat.le_of_ble_eq_true rfl) (Nat.le_of_ble_eq_true rfl) dd_X9_stepTaken_0.2.2.2.2.2.2.2.2.2.2.2.1 rfl (fun _ _ hp => hp.2) (fun v_6 hp_8 => ?_)
  obtain ⟨rfl, -⟩ := hp_8
  refine xr_st (st' := [.int x_5]) rfl ?_
  refine xr_if_eq (tgt := 29) (n := 21) C dd_X9_stepTaken_0.2.2.2.2.2.2.2.2.2.2.2.2.1 rfl rfl (fun c_9 => ?_) (fun c_9 => ?_)
  · replace hR := yf_t c_9 hR
    refine xr_iconst (n := 30) (v := -1) C dd_X9_stepTaken_1.2.2.2.1 rfl rfl ?_
    obtain rfl := Option.some.inj hR
    exact ret (-1) ⟨rfl, rfl⟩ (Nat.le_of_ble_eq_true rfl) (Nat.le_of_ble_eq_true rfl) dd_X9_stepTaken_1.2.2.2.2.1
  · replace hR := yf_f c_9 hR
    refine xr_iload_n (n := 22) (j := 1) C dd_X9_stepTaken_0.2.2.2.2.2.2.2.2.2.2.2.2.2.1 rfl rfl ?_
    refine xr_iload_n (n := 23) (j := 2) C dd_X9_stepTaken_0.2.2.2.2.2.2.2.2.2.2.2.2.2.2.1 rfl rfl ?_
    refine xr_isub (n := 24) C dd_X9_stepTaken_0.2.2.2.2.2.2.2.2.2.2.2.2.2.2.2.1 rfl ?_
    refine xr_iload_n (n := 25) (j := 3) C dd_X9_stepTaken_1.1 rfl rfl ?_
    refine xr_isub (n := 26) C dd_X9_stepTaken_1.2.1 rfl ?_
    refine xr_goto (tgt := 30) C dd_X9_stepTaken_1.2.2.1 rfl ?_
    obtain rfl := Option.some.inj hR
    exact ret ((i1 - i2) - i3) ⟨rfl, rfl⟩ (Nat.le_of_ble_eq_true rfl) (Nat.le_of_ble_eq_true rfl) dd_X9_stepTaken_1.2.2.2.2.1
