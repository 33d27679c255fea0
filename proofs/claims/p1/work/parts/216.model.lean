theorem u_1253 : Cond.fieldLink RX9 41 "PulsemeshModel" "drained" "[[I" ∈ yU := yu_tables_1_5 237 (by decide +kernel) (by decide +kernel)
theorem u_1455 : Cond.methodLink RX9 199 yX9_nth ∈ yU := yu_tables_1_6 199 (by decide +kernel) (by decide +kernel)
theorem u_1456 : Cond.static yX9_nth ∈ yU := yu_tables_1_6 200 (by decide +kernel) (by decide +kernel)
theorem u_1483 : Cond.code yX9_drain cX9_drain 5 none ∈ yU := yu_tables_1_6 227 (by decide +kernel) (by decide +kernel)
theorem u_1462 : Cond.methodLink RX9 202 yX8_a ∈ yU := yu_tables_1_6 206 (by decide +kernel) (by decide +kernel)
theorem u_1466 : Cond.methodLink RX9 204 yX8_b ∈ yU := yu_tables_1_6 210 (by decide +kernel) (by decide +kernel)
theorem u_1470 : Cond.methodLink RX9 206 yX8_with ∈ yU := yu_tables_1_6 214 (by decide +kernel) (by decide +kernel)
theorem u_1245 : Cond.fieldLink RX9 209 "PulsemeshModel" "taken" "J" ∈ yU := yu_tables_1_5 229 (by decide +kernel) (by decide +kernel)
theorem u_1476 : Cond.methodLink RX9 216 yX9_tileBeats ∈ yU := yu_tables_1_6 220 (by decide +kernel) (by decide +kernel)
theorem u_1478 : Cond.instanceMethod yX9_tileBeats ∈ yU := yu_tables_1_6 222 (by decide +kernel) (by decide +kernel)
theorem u_43 : Cond.selects RX9 yX9_tileBeats yX9_tileBeats ∈ yU := yu 43 (by decide +kernel) (by decide +kernel)
theorem u_1480 : Cond.methodLink RX9 219 yX9_drain ∈ yU := yu_tables_1_6 224 (by decide +kernel) (by decide +kernel)
theorem u_1482 : Cond.instanceMethod yX9_drain ∈ yU := yu_tables_1_6 226 (by decide +kernel) (by decide +kernel)
theorem u_44 : Cond.selects RX9 yX9_drain yX9_drain ∈ yU := yu 44 (by decide +kernel) (by decide +kernel)
theorem u_1441 : Cond.code yX9_one_ cX9_one_ 10 none ∈ yU := yu_tables_1_6 185 (by decide +kernel) (by decide +kernel)
theorem u_1437 : Cond.code yX9_beat cX9_beat 3 (some .int) ∈ yU := yu_tables_1_6 181 (by decide +kernel) (by decide +kernel)
theorem u_1438 : Cond.methodLink RX9 226 yX9_one_ ∈ yU := yu_tables_1_6 182 (by decide +kernel) (by decide +kernel)
theorem u_1440 : Cond.instanceMethod yX9_one_ ∈ yU := yu_tables_1_6 184 (by decide +kernel) (by decide +kernel)
theorem u_39 : Cond.selects RX9 yX9_one_ yX9_one_ ∈ yU := yu 39 (by decide +kernel) (by decide +kernel)
theorem u_1567 : Cond.code yX9_bestTold cX9_bestTold 7 (some .int) ∈ yU := yu_tables_1_7 71 (by decide +kernel) (by decide +kernel)
theorem dX9_drain_22 : decode cX9_drain 22 = .ok (.multianewarray 30 2, 4) := by decide +kernel
theorem dd_X9_drain_0 : dk_R cX9_drain [(0, .aload_n 0, 1), (1, .getfield 155, 3), (4, .ifCond .ne 25, 3), (7, .aload_n 0, 1), (8, .aload_n 0, 1), (9, .getfield 137, 3), (12, .invokevirtual 106, 3), (15, .aload_n 0, 1), (16, .getfield 137, 3), (19, .invokevirtual 113, 3), (26, .putfield 41, 3), (29, .iconst 0, 1), (30, .istore_n 3, 1), (31, .iload_n 3, 1), (32, .aload_n 0, 1), (33, .invokevirtual 161, 3)] := dk_use _ _ (by decide +kernel)
theorem dd_X9_drain_1 : dk_R cX9_drain [(36, .if_icmp .ge 63, 3), (39, .iconst 0, 1), (40, .istore 4, 2), (42, .iload 4, 2), (44, .aload_n 0, 1), (45, .invokevirtual 164, 3), (48, .if_icmp .ge 45, 3), (51, .aload_n 0, 1), (52, .getfield 41, 3), (55, .iload_n 1, 1), (56, .iload_n 3, 1), (57, .iadd, 1), (58, .aaload, 1), (59, .iload_n 2, 1), (60, .iload 4, 2), (62, .iadd, 1)] := dk_use _ _ (by decide +kernel)
theorem dd_X9_drain_2 : dk_R cX9_drain [(63, .aload_n 0, 1), (64, .getfield 35, 3), (67, .aload_n 0, 1), (68, .getfield 146, 3), (71, .iload_n 3, 1), (72, .invokestatic 199, 3), (75, .aaload, 1), (76, .aload_n 0, 1), (77, .getfield 149, 3), (80, .iload 4, 2), (82, .invokestatic 199, 3), (85, .iaload, 1), (86, .iastore, 1), (87, .iinc 4 1, 3), (90, .goto (-48), 3), (93, .iinc 3 1, 3)] := dk_use _ _ (by decide +kernel)
theorem dd_X9_drain_3 : dk_R cX9_drain [(96, .goto (-65), 3), (99, .aload_n 0, 1), (100, .dup, 1), (101, .getfield 155, 3), (104, .iconst 1, 1), (105, .iadd, 1), (106, .putfield 155, 3), (109, .aload_n 0, 1), (110, .getfield 155, 3), (113, .aload_n 0, 1), (114, .getfield 137, 3), (117, .invokevirtual 106, 3), (120, .aload_n 0, 1), (121, .invokevirtual 152, 3), (124, .invokestatic 110, 3), (127, .aload_n 0, 1)] := dk_use _ _ (by decide +kernel)
theorem dd_X9_drain_4 : dk_R cX9_drain [(128, .getfield 137, 3), (131, .invokevirtual 113, 3), (134, .aload_n 0, 1), (135, .invokevirtual 158, 3), (138, .invokestatic 110, 3), (141, .imul, 1), (142, .if_icmp .ge 8, 3), (145, .aload_n 0, 1), (146, .invokevirtual 181, 3), (149, .return_, 1), (150, .aload_n 0, 1), (151, .aload_n 0, 1), (152, .getfield 41, 3), (155, .putfield 38, 3), (158, .aload_n 0, 1), (159, .aload_n 0, 1)] := dk_use _ _ (by decide +kernel)
theorem dd_X9_drain_5 : dk_R cX9_drain [(160, .getfield 137, 3), (163, .getfield 89, 3), (166, .putfield 223, 3), (169, .aload_n 0, 1), (170, .aconst_null, 1), (171, .putfield 137, 3), (174, .return_, 1)] := dk_use _ _ (by decide +kernel)
def fX9_drain (glr : Int32) (glc : Int32) (gti : Int32) (gnr : Int32) (gnc : Int32) (gng : Int32) (gns : Int32) (gSG : Nat → Nat → Int32) (gDn : Nat) (gDk : Nat) (gDG : Nat → Nat → Int32) (i1 : Int32) (i2 : Int32) : Option ((Int32 × Int32 × (Nat → Nat → Int32) × Nat × Nat × (Nat → Nat → Int32)) ⊕ (Int32 × Int32 × Nat × Nat × (Nat → Nat → Int32))) := (if gti = 0 then ((fX8_rows gnr gns).bind fun x_58 => ((fX8_columns gnc gns).bind fun x_62 => (if ¬ x_58 < 0 ∧ ¬ x_62 < 0 ∧ x_58.toNatClampNeg ≤ 9 ∧ x_62.toNatClampNeg ≤ 9 then ((wl (S := Int32 × (Nat → Nat → Int32)) (B := Int32 × (Nat → Nat → Int32)) (fun s_110 => ((fX9_tileRows glr glc gti gnr gnc gns).bind fun x_141 => (if x_141 ≤ s_110.1 then some (.inr (s_110.1, s_110.2)) else ((wl (S := Int32 × (Nat → Nat → Int32)) (B := Int32 × (Nat → Nat → Int32)) (fun s_147 => ((fX9_tileColumns glc gti gnc gns).bind fun x_148 => (if x_148 ≤ s_147.1 then some (.inr (s_147.1, s_147.2)) else (if ¬ ((i1 + s_110.1) < 0 ∨ x_58.toNatClampNeg ≤ (i1 + s_110.1).toNatClampNeg) then ((fX9_nth glr s_110.1).bind fun x_155 => (if ¬ (x_155 < 0 ∨ 5 ≤ x_155.toNatClampNeg) then ((fX9_nth glc s_147.1).bind fun x_160 => (if ¬ (x_160 < 0 ∨ 5 ≤ x_160.toNatClampNeg) then (if ¬ ((i2 + s_147.1) < 0 ∨ x_62.toNatClampNeg ≤ (i2 + s_147.1).toNatClampNeg) then some (.inl (s_147.1 + 1, upg s_147.2 ((i1 + s_110.1).toNatClampNeg) (i2 + s_147.1).toNatClampNeg (gSG x_155.toNatClampNeg x_160.toNatClampNeg))) else none) else none)) else none)) else none)))) yFuel (0, s_110.2)).bind fun b_147 => some (.inl (s_110.1 + 1, b_147.2)))))) yFuel (0, fun _ _ => 0)).bind fun b_110 => ((fX8_rows gnr gns).bind fun x_111 => ((fX9_h glr).bind fun x_115 => ((fX9_tiles x_111 x_115).bind fun x_119 => ((fX8_columns gnc gns).bind fun x_123 => ((fX9_w glc).bind fun x_127 => ((fX9_tiles x_123 x_127).bind fun x_131 => (if (x_119 * x_131) ≤ (gti + 1) then (if gns = 0 ∨ gns = 1 then some (.inr (gti + 1, gns, x_58.toNatClampNeg, x_62.toNatClampNeg, b_110.2)) else none) else ((fX9_begin gng gSG).bind fun x_137 => some (.inl (gti + 1, x_137.1, x_137.2, x_58.toNatClampNeg, x_62.toNatClampNeg, b_110.2))))))))))) else none))) else ((wl (S := Int32 × (Nat → Nat → Int32)) (B := Int32 × (Nat → Nat → Int32)) (fun s_2 => ((fX9_tileRows glr glc gti gnr gnc gns).bind fun x_33 => (if x_33 ≤ s_2.1 then some (.inr (s_2.1, s_2.2)) else ((wl (S := Int32 × (Nat → Nat → Int32)) (B := Int32 × (Nat → Nat → Int32)) (fun s_39 => ((fX9_tileColumns glc gti gnc gns).bind fun x_40 => (if x_40 ≤ s_39.1 then some (.inr (s_39.1, s_39.2)) else (if ¬ ((i1 + s_2.1) < 0 ∨ gDn ≤ (i1 + s_2.1).toNatClampNeg) then ((fX9_nth glr s_2.1).bind fun x_47 => (if ¬ (x_47 < 0 ∨ 5 ≤ x_47.toNatClampNeg) then ((fX9_nth glc s_39.1).bind fun x_52 => (if ¬ (x_52 < 0 ∨ 5 ≤ x_52.toNatClampNeg) then (if ¬ ((i2 + s_39.1) < 0 ∨ gDk ≤ (i2 + s_39.1).toNatClampNeg) then some (.inl (s_39.1 + 1, upg s_39.2 ((i1 + s_2.1).toNatClampNeg) (i2 + s_39.1).toNatClampNeg (gSG x_47.toNatClampNeg x_52.toNatClampNeg))) else none) else none)) else none)) else none)))) yFuel (0, s_2.2)).bind fun b_39 => some (.inl (s_2.1 + 1, b_39.2)))))) yFuel (0, gDG)).bind fun b_2 => ((fX8_rows gnr gns).bind fun x_3 => ((fX9_h glr).bind fun x_7 => ((fX9_tiles x_3 x_7).bind fun x_11 => ((fX8_columns gnc gns).bind fun x_15 => ((fX9_w glc).bind fun x_19 => ((fX9_tiles x_15 x_19).bind fun x_23 => (if (x_11 * x_23) ≤ (gti + 1) then (if gns = 0 ∨ gns = 1 then some (.inr (gti + 1, gns, gDn, gDk, b_2.2)) else none) else ((fX9_begin gng gSG).bind fun x_29 => some (.inl (gti + 1, x_29.1, x_29.2, gDn, gDk, b_2.2))))))))))))
abbrev hX9_drain : Cond := .code yX9_drain cX9_drain 5 none
theorem mX9_drain : yM yX9_drain hX9_drain 2 := ⟨u_1483, u_64, by decide +kernel, by decide +kernel, by decide +kernel⟩
set_option maxHeartbeats 4000000 in
set_option maxRecDepth 100000 in
theorem kX9_drain (l : Launch) (D : va_G) (cy : Nat → ClassId) (g : Nat) (gth : Int32) (gw : Nat) (gB : Nat) (gK : Nat) (gU : Nat) (gS : Nat) (gbe : Int32) (gwo : Int32) (gta : Int64) (gn : Nat) (glr : Int32) (glc : Int32) (gti : Int32) (ggo : Int32) (gR : Nat) (gch : Int32) (gD : Nat) (gnr : Int32) (gnk : Int32) (gnc : Int32) (gng : Int32) (gns : Int32) (gna : Nat) (gnb : Nat) (gSd : Nat → Nat) (gSG : Nat → Nat → Int32) (gDd : Nat → Nat) (gDn : Nat) (gDk : Nat) (gDG : Nat → Nat → Int32) (i1 : Int32) (i2 : Int32) {res : (Int32 × Int32 × (Nat → Nat → Int32) × Nat × Nat × (Nat → Nat → Int32)) ⊕ (Int32 × Int32 × Nat × Nat × (Nat → Nat → Int32))} (hR : fX9_drain glr glc gti gnr gnc gng gns gSG gDn gDk gDG i1 i2 = some res) : YM l D cy yX9_drain hX9_drain 4 (if gti = 0 then 10 else 0) (if gti = 0 then 90 else 0) [.ref g, .int i1, .int i2] [[(g, .inr (11, [.int gth, .ref gw, .ref gB, .ref gK, .ref gU, .ref gS, .int gbe, .int gwo, .long gta, .ref gn, .int glr, .int glc, .int gti, .int ggo, .ref gR, .int gch, .ref gD]))], [(gn, .inr (10, [.int gnr, .int gnk, .int gnc, .int gng, .int gns, .ref gna, .ref gnb]))], [(gS, .inl (cy 3, 5, .inr (.inr (.inr (.inr (yad gSd))))))], xg_rows gSd 5 (cy 1) 5 gSG, [(gD, .inl (cy 3, gDn, .inr (.inr (.inr (.inr (yad gDd))))))], xg_rows gDd gDn (cy 1) gDk gDG] (fun v u => (∃ r, res = .inl r ∧ ∃ gD : Nat, ∃ gDd : Nat → Nat, v = none ∧ u = [[(g, .inr (11, [.int gth, .ref gw, .ref gB, .ref gK, .ref gU, .ref gS, .int gbe, .int gwo, .long gta, .ref gn, .int glr, .int glc, .int r.1, .int r.2.1, .ref gR, .int gch, .ref gD]))], [(gn, .inr (10, [.int gnr, .int gnk, .int gnc, .int gng, .int gns, .ref gna, .ref gnb]))], [(gS, .inl (cy 3, 5, .inr (.inr (.inr (.inr (yad gSd))))))], xg_rows gSd 5 (cy 1) 5 r.2.2.1, [(gD, .inl (cy 3, r.2.2.2.1, .inr (.inr (.inr (.inr (yad gDd))))))], xg_rows gDd r.2.2.2.1 (cy 1) r.2.2.2.2.1 r.2.2.2.2.2]) ∨ (∃ r, res = .inr r ∧ ∃ gD : Nat, ∃ gDd : Nat → Nat, v = none ∧ u = [[(g, .inr (11, [.int gth, .ref gw, .ref gB, .ref gK, .ref gU, .ref gS, .int gbe, .int gwo, .long gta, .null, .int glr, .int glc, .int r.1, .int ggo, .ref gD, .int r.2.1, .ref gD]))], [(gS, .inl (cy 3, 5, .inr (.inr (.inr (.inr (yad gSd))))))], xg_rows gSd 5 (cy 1) 5 gSG, [(gD, .inl (cy 3, r.2.2.1, .inr (.inr (.inr (.inr (yad gDd))))))], xg_rows gDd r.2.2.1 (cy 1) r.2.2.2.1 r.2.2.2.2])) := by
  unfold fX9_drain at hR
  refine YM.ofV (cc := cX9_drain) (maxL := 5) (ret := none) (by decide +kernel) rfl (Nat.le_of_ble_eq_true rfl) [(0, .ref g), (1, .int i1), (2, .int i2)] rfl rfl (fun p e s m args below meth c A H0 Q C hnm ret => ?_)
  refine xr_aload_n (n := 1) (j := 0) C dd_X9_drain_0.1 rfl rfl ?_
  refine xr_get (n := 4) C 0 rfl rfl 12 (by decide) in_X9 u_1249 rfl (v := .int gti) rfl dd_X9_drain_0.2.1 rfl ?_
  refine xr_if_ne (tgt := 29) (n := 7) C dd_X9_drain_0.2.2.1 rfl rfl (fun c_1 => ?_) (fun c_1 => ?_)
  · replace hR := yf_f c_1 hR
    refine xr_iconst (n := 30) (v := 0) C dd_X9_drain_0.2.2.2.2.2.2.2.2.2.2.2.1 rfl rfl ?_
    refine xr_istore_n (n := 31) C [(3, .int 0), (0, .ref g), (1, .int i1), (2, .int i2)] dd_X9_drain_0.2.2.2.2.2.2.2.2.2.2.2.2.1 (by decide) rfl rfl ?_
    refine xr_lv (lv' := [(0, .ref g), (1, .int i1), (2, .int i2), (3, .int 0)]) [1, 2, 3, 0] rfl ?_
    obtain ⟨b_2, hb_2, hR⟩ := yf_b hR
    have K_2 : X p l e (yR 4 (if gti = 0 then 10 else 0) (if gti = 0 then 90 else 0)) s m args below meth c D A H0 5 Q [[(g, .inr (11, [.int gth, .ref gw, .ref gB, .ref gK, .ref gU, .ref gS, .int gbe, .int gwo, .long gta, .ref gn, .int glr, .int glc, .int gti, .int ggo, .ref gR, .int gch, .ref gD]))], [(gn, .inr (10, [.int gnr, .int gnk, .int gnc, .int gng, .int gns, .ref gna, .ref gnb]))], [(gS, .inl (cy 3, 5, .inr (.inr (.inr (.inr (yad gSd))))))], xg_rows gSd 5 (cy 1) 5 gSG, [(gD, .inl (cy 3, gDn, .inr (.inr (.inr (.inr (yad gDd))))))], xg_rows gDd gDn (cy 1) gDk b_2.2] 0 0 [(0, .ref g)] 99 [] := by
      refine xr_aload_n (n := 100) (j := 0) C dd_X9_drain_3.2.1 rfl rfl ?_
      refine xr_dup (n := 101) C dd_X9_drain_3.2.2.1 rfl rfl ?_
      refine xr_get (n := 104) C 0 rfl rfl 12 (by decide) in_X9 u_1249 rfl (v := .int gti) rfl dd_X9_drain_3.2.2.2.1 rfl ?_
      refine xr_iconst (n := 105) (v := 1) C dd_X9_drain_3.2.2.2.2.1 rfl rfl ?_
      refine xr_iadd (n := 106) C dd_X9_drain_3.2.2.2.2.2.1 rfl ?_
      refine xr_put (n := 109) C 0 rfl rfl 12 (by decide) in_X9 tyX9 tyX9_ok nmX9 u_1249 rfl rfl rfl rfl (Nat.le_of_ble_eq_true rfl) [[(g, .inr (11, [.int gth, .ref gw, .ref gB, .ref gK, .ref gU, .ref gS, .int gbe, .int gwo, .long gta, .ref gn, .int glr, .int glc, .int (gti + 1), .int ggo, .ref gR, .int gch, .ref gD]))], [(gn, .inr (10, [.int gnr, .int gnk, .int gnc, .int gng, .int gns, .ref gna, .ref gnb]))], [(gS, .inl (cy 3, 5, .inr (.inr (.inr (.inr (yad gSd))))))], xg_rows gSd 5 (cy 1) 5 gSG, [(gD, .inl (cy 3, gDn, .inr (.inr (.inr (.inr (yad gDd))))))], xg_rows gDd gDn (cy 1) gDk b_2.2] rfl rfl dd_X9_drain_3.2.2.2.2.2.2.1 ?_
      refine xr_aload_n (n := 110) (j := 0) C dd_X9_drain_3.2.2.2.2.2.2.2.1 rfl rfl ?_
      refine xr_get (n := 113) C 0 rfl rfl 12 (by decide) in_X9 u_1249 rfl (v := .int (gti + 1)) rfl dd_X9_drain_3.2.2.2.2.2.2.2.2.1 rfl ?_
      refine xr_aload_n (n := 114) (j := 0) C dd_X9_drain_3.2.2.2.2.2.2.2.2.2.1 rfl rfl ?_
      refine xr_get (n := 117) C 0 rfl rfl 9 (by decide) in_X9 u_1246 rfl (v := .ref gn) rfl dd_X9_drain_3.2.2.2.2.2.2.2.2.2.2.1 rfl ?_
      obtain ⟨x_3, hx_3, hR⟩ := yf_b hR
      refine xr_callVp (n := 120) (As := []) (rest := [.int (gti + 1)]) C (kX8_rows l D cy (w := gn) (wr := gnr) (wk := gnk) (wc := gnc) (wg := gng) (ws := gns) (wa := gna) (wb := gnb) hx_3) mX8_rows u_1384 u_1385 u_1386 1 rfl rfl 6 [1] [0, 2, 3, 4, 5] rfl (by decide +kernel) rfl rfl rfl rfl (Nat.le_of_ble_eq_true rfl) (Nat.le_of_ble_eq_true rfl) (Nat.le_of_ble_eq_true rfl) (Nat.zero_le _) (Nat.zero_le _) dd_X9_drain_3.2.2.2.2.2.2.2.2.2.2.2.1 rfl (fun _ _ hp => hp.2) (fun v_4 hp_6 => ?_)
      obtain ⟨rfl, -⟩ := hp_6
      refine xr_st (st' := [.int x_3, .int (gti + 1)]) rfl ?_
      refine xr_aload_n (n := 121) (j := 0) C dd_X9_drain_3.2.2.2.2.2.2.2.2.2.2.2.2.1 rfl rfl ?_
      obtain ⟨x_7, hx_7, hR⟩ := yf_b hR
      refine xr_callVp (n := 124) (As := []) (rest := [.int x_3, .int (gti + 1)]) C (kX9_h l D cy (g := g) (gth := gth) (gw := gw) (gB := gB) (gK := gK) (gU := gU) (gS := gS) (gbe := gbe) (gwo := gwo) (gta := gta) (gn := gn) (glr := glr) (glc := glc) (gti := gti + 1) (ggo := ggo) (gR := gR) (gch := gch) (gD := gD) hx_7) mX9_h u_1430 u_1432 u_38 0 rfl rfl 6 [0] [1, 2, 3, 4, 5] rfl (by decide +kernel) rfl rfl rfl rfl (Nat.le_of_ble_eq_true rfl) (Nat.le_of_ble_eq_true rfl) (Nat.le_of_ble_eq_true rfl) (Nat.zero_le _) (Nat.zero_le _) dd_X9_drain_3.2.2.2.2.2.2.2.2.2.2.2.2.2.1 rfl (fun _ _ hp => hp.2) (fun v_8 hp_10 => ?_)
      obtain ⟨rfl, -⟩ := hp_10
      refine xr_st (st' := [.int x_7, .int x_3, .int (gti + 1)]) rfl ?_
      obtain ⟨x_11, hx_11, hR⟩ := yf_b hR
      refine xr_callSp (n := 127) (As := [.int x_3, .int x_7]) (rest := [.int (gti + 1)]) C (kX9_tiles l D cy (i1 := x_3) (i2 := x_7) hx_11) mX9_tiles u_1388 u_1389 6 [] [0, 1, 2, 3, 4, 5] rfl (by decide +kernel) rfl rfl rfl rfl (Nat.le_of_ble_eq_true rfl) (Nat.le_of_ble_eq_true rfl) (Nat.le_of_ble_eq_true rfl) (Nat.zero_le _) (Nat.zero_le _) dd_X9_drain_3.2.2.2.2.2.2.2.2.2.2.2.2.2.2.1 rfl (fun _ _ hp => hp.2) (fun v_12 hp_14 => ?_)
      obtain ⟨rfl, -⟩ := hp_14
      refine xr_st (st' := [.int x_11, .int (gti + 1)]) rfl ?_
      refine xr_aload_n (n := 128) (j := 0) C dd_X9_drain_3.2.2.2.2.2.2.2.2.2.2.2.2.2.2.2.1 rfl rfl ?_
      refine xr_get (n := 131) C 0 rfl rfl 9 (by decide) in_X9 u_1246 rfl (v := .ref gn) rfl dd_X9_drain_4.1 rfl ?_
      obtain ⟨x_15, hx_15, hR⟩ := yf_b hR
      refine xr_callVp (n := 134) (As := []) (rest := [.int x_11, .int (gti + 1)]) C (kX8_columns l D cy (w := gn) (wr := gnr) (wk := gnk) (wc := gnc) (wg := gng) (ws := gns) (wa := gna) (wb := gnb) hx_15) mX8_columns u_1391 u_1392 u_1393 1 rfl rfl 6 [1] [0, 2, 3, 4, 5] rfl (by decide +kernel) rfl rfl rfl rfl (Nat.le_of_ble_eq_true rfl) (Nat.le_of_ble_eq_true rfl) (Nat.le_of_ble_eq_true rfl) (Nat.zero_le _) (Nat.zero_le _) dd_X9_drain_4.2.1 rfl (fun _ _ hp => hp.2) (fun v_16 hp_18 => ?_)
      obtain ⟨rfl, -⟩ := hp_18
      refine xr_st (st' := [.int x_15, .int x_11, .int (gti + 1)]) rfl ?_
      refine xr_aload_n (n := 135) (j := 0) C dd_X9_drain_4.2.2.1 rfl rfl ?_
      obtain ⟨x_19, hx_19, hR⟩ := yf_b hR
      refine xr_callVp (n := 138) (As := []) (rest := [.int x_15, .int x_11, .int (gti + 1)]) C (kX9_w l D cy (g := g) (gth := gth) (gw := gw) (gB := gB) (gK := gK) (gU := gU) (gS := gS) (gbe := gbe) (gwo := gwo) (gta := gta) (gn := gn) (glr := glr) (glc := glc) (gti := gti + 1) (ggo := ggo) (gR := gR) (gch := gch) (gD := gD) hx_19) mX9_w u_1426 u_1428 u_37 0 rfl rfl 6 [0] [1, 2, 3, 4, 5] rfl (by decide +kernel) rfl rfl rfl rfl (Nat.le_of_ble_eq_true rfl) (Nat.le_of_ble_eq_true rfl) (Nat.le_of_ble_eq_true rfl) (Nat.zero_le _) (Nat.zero_le _) dd_X9_drain_4.2.2.2.1 rfl (fun _ _ hp => hp.2) (fun v_20 hp_22 => ?_)
      obtain ⟨rfl, -⟩ := hp_22
      refine xr_st (st' := [.int x_19, .int x_15, .int x_11, .int (gti + 1)]) rfl ?_
      obtain ⟨x_23, hx_23, hR⟩ := yf_b hR
      refine xr_callSp (n := 141) (As := [.int x_15, .int x_19]) (rest := [.int x_11, .int (gti + 1)]) C (kX9_tiles l D cy (i1 := x_15) (i2 := x_19) hx_23) mX9_tiles u_1388 u_1389 6 [] [0, 1, 2, 3, 4, 5] rfl (by decide +kernel) rfl rfl rfl rfl (Nat.le_of_ble_eq_true rfl) (Nat.le_of_ble_eq_true rfl) (Nat.le_of_ble_eq_true rfl) (Nat.zero_le _) (Nat.zero_le _) dd_X9_drain_4.2.2.2.2.1 rfl (fun _ _ hp => hp.2) (fun v_24 hp_26 => ?_)
      obtain ⟨rfl, -⟩ := hp_26
      refine xr_st (st' := [.int x_23, .int x_11, .int (gti + 1)]) rfl ?_
      refine xr_imul (n := 142) C dd_X9_drain_4.2.2.2.2.2.1 rfl ?_
      refine xr_icmp_ge (tgt := 150) (n := 145) C dd_X9_drain_4.2.2.2.2.2.2.1 rfl rfl (fun c_27 => ?_) (fun c_27 => ?_)
      · replace hR := yf_t c_27 hR
        refine xr_aload_n (n := 151) (j := 0) C dd_X9_drain_4.2.2.2.2.2.2.2.2.2.2.1 rfl rfl ?_
        refine xr_aload_n (n := 152) (j := 0) C dd_X9_drain_4.2.2.2.2.2.2.2.2.2.2.2.1 rfl rfl ?_
        refine xr_get (n := 155) C 0 rfl rfl 16 (by decide) in_X9 u_1253 rfl (v := .ref gD) rfl dd_X9_drain_4.2.2.2.2.2.2.2.2.2.2.2.2.1 rfl ?_
        refine xr_put (n := 158) C 0 rfl rfl 14 (by decide) in_X9 tyX9 tyX9_ok nmX9 u_1251 rfl rfl rfl rfl (Nat.le_of_ble_eq_true rfl) [[(g, .inr (11, [.int gth, .ref gw, .ref gB, .ref gK, .ref gU, .ref gS, .int gbe, .int gwo, .long gta, .ref gn, .int glr, .int glc, .int (gti + 1), .int ggo, .ref gD, .int gch, .ref gD]))], [(gn, .inr (10, [.int gnr, .int gnk, .int gnc, .int gng, .int gns, .ref gna, .ref gnb]))], [(gS, .inl (cy 3, 5, .inr (.inr (.inr (.inr (yad gSd))))))], xg_rows gSd 5 (cy 1) 5 gSG, [(gD, .inl (cy 3, gDn, .inr (.inr (.inr (.inr (yad gDd))))))], xg_rows gDd gDn (cy 1) gDk b_2.2] rfl rfl dd_X9_drain_4.2.2.2.2.2.2.2.2.2.2.2.2.2.1 ?_
        refine xr_aload_n (n := 159) (j := 0) C dd_X9_drain_4.2.2.2.2.2.2.2.2.2.2.2.2.2.2.1 rfl rfl ?_
        refine xr_aload_n (n := 160) (j := 0) C dd_X9_drain_4.2.2.2.2.2.2.2.2.2.2.2.2.2.2.2.1 rfl rfl ?_
        refine xr_get (n := 163) C 0 rfl rfl 9 (by decide) in_X9 u_1246 rfl (v := .ref gn) rfl dd_X9_drain_5.1 rfl ?_
        refine xr_get (n := 166) C 1 rfl rfl 4 (by decide) in_X8 u_1209 rfl (v := .int gns) rfl dd_X9_drain_5.2.1 rfl ?_
        obtain ⟨g_28, hR⟩ := yf_g hR
        refine xr_put (n := 169) C 0 rfl rfl 15 (by decide) in_X9 tyX9 tyX9_ok nmX9 u_1252 rfl rfl (ynz_f g_28) (ynz_n g_28) (Nat.le_of_ble_eq_true rfl) [[(g, .inr (11, [.int gth, .ref gw, .ref gB, .ref gK, .ref gU, .ref gS, .int gbe, .int gwo, .long gta, .ref gn, .int glr, .int glc, .int (gti + 1), .int ggo, .ref gD, .int gns, .ref gD]))], [(gn, .inr (10, [.int gnr, .int gnk, .int gnc, .int gng, .int gns, .ref gna, .ref gnb]))], [(gS, .inl (cy 3, 5, .inr (.inr (.inr (.inr (yad gSd))))))], xg_rows gSd 5 (cy 1) 5 gSG, [(gD, .inl (cy 3, gDn, .inr (.inr (.inr (.inr (yad gDd))))))], xg_rows gDd gDn (cy 1) gDk b_2.2] rfl rfl dd_X9_drain_5.2.2.1 ?_
        refine xr_aload_n (n := 170) (j := 0) C dd_X9_drain_5.2.2.2.1 rfl rfl ?_
        refine xr_null (n := 171) C dd_X9_drain_5.2.2.2.2.1 rfl ?_
        refine xr_put (n := 174) C 0 rfl rfl 9 (by decide) in_X9 tyX9 tyX9_ok nmX9 u_1246 rfl rfl rfl rfl (Nat.le_of_ble_eq_true rfl) [[(g, .inr (11, [.int gth, .ref gw, .ref gB, .ref gK, .ref gU, .ref gS, .int gbe, .int gwo, .long gta, .null, .int glr, .int glc, .int (gti + 1), .int ggo, .ref gD, .int gns, .ref gD]))], [(gn, .inr (10, [.int gnr, .int gnk, .int gnc, .int gng, .int gns, .ref gna, .ref gnb]))], [(gS, .inl (cy 3, 5, .inr (.inr (.inr (.inr (yad gSd))))))], xg_rows gSd 5 (cy 1) 5 gSG, [(gD, .inl (cy 3, gDn, .inr (.inr (.inr (.inr (yad gDd))))))], xg_rows gDd gDn (cy 1) gDk b_2.2] rfl rfl dd_X9_drain_5.2.2.2.2.2.1 ?_
        obtain rfl := Option.some.inj hR
        refine xr_perm C 6 [0, 2, 3, 4, 5] [1] [[(g, .inr (11, [.int gth, .ref gw, .ref gB, .ref gK, .ref gU, .ref gS, .int gbe, .int gwo, .long gta, .null, .int glr, .int glc, .int (gti + 1), .int ggo, .ref gD, .int gns, .ref gD]))], [(gS, .inl (cy 3, 5, .inr (.inr (.inr (.inr (yad gSd))))))], xg_rows gSd 5 (cy 1) 5 gSG, [(gD, .inl (cy 3, gDn, .inr (.inr (.inr (.inr (yad gDd))))))], xg_rows gDd gDn (cy 1) gDk b_2.2] rfl (by decide +kernel) rfl ?_
        exact ret (Or.inr ⟨_, rfl, gD, gDd, rfl, rfl⟩) (Nat.zero_le _) (Nat.zero_le _) dd_X9_drain_5.2.2.2.2.2.2.1
      · replace hR := yf_f c_27 hR
        refine xr_aload_n (n := 146) (j := 0) C dd_X9_drain_4.2.2.2.2.2.2.2.1 rfl rfl ?_
        obtain ⟨x_29, hx_29, hR⟩ := yf_b hR
        refine xr_callV (n := 149) (As := []) (rest := []) C (kX9_begin l D cy (g := g) (gth := gth) (gw := gw) (gB := gB) (gK := gK) (gU := gU) (gS := gS) (gbe := gbe) (gwo := gwo) (gta := gta) (gn := gn) (glr := glr) (glc := glc) (gti := gti + 1) (ggo := ggo) (gR := gR) (gch := gch) (gD := gD) (gnr := gnr) (gnk := gnk) (gnc := gnc) (gng := gng) (gns := gns) (gna := gna) (gnb := gnb) (gSd := gSd) (gSG := gSG) hx_29) mX9_begin u_1410 u_1412 u_34 0 rfl rfl 6 [0, 1, 2, 3] [4, 5] rfl (by decide +kernel) rfl rfl rfl rfl (Nat.le_of_ble_eq_true rfl) (Nat.le_of_ble_eq_true rfl) (Nat.le_of_ble_eq_true rfl) (Nat.zero_le _) (Nat.zero_le _) dd_X9_drain_4.2.2.2.2.2.2.2.2.1 rfl (fun v_30 u_31 hp_32 => ?_)
        obtain ⟨rfl, rfl⟩ := hp_32
        refine xr_perm C 6 [0, 1, 2, 3, 4, 5] [] [[(g, .inr (11, [.int gth, .ref gw, .ref gB, .ref gK, .ref gU, .ref gS, .int gbe, .int gwo, .long gta, .ref gn, .int glr, .int glc, .int (gti + 1), .int x_29.1, .ref gR, .int gch, .ref gD]))], [(gn, .inr (10, [.int gnr, .int gnk, .int gnc, .int gng, .int gns, .ref gna, .ref gnb]))], [(gS, .inl (cy 3, 5, .inr (.inr (.inr (.inr (yad gSd))))))], xg_rows gSd 5 (cy 1) 5 x_29.2, [(gD, .inl (cy 3, gDn, .inr (.inr (.inr (.inr (yad gDd))))))], xg_rows gDd gDn (cy 1) gDk b_2.2] rfl (by decide +kernel) rfl ?_
        obtain rfl := Option.some.inj hR
        exact ret (Or.inl ⟨_, rfl, gD, gDd, rfl, rfl⟩) (Nat.zero_le _) (Nat.zero_le _) dd_X9_drain_4.2.2.2.2.2.2.2.2.2.1
    refine y_loop (P := fun (s_2 : Int32 × (Nat → Nat → Int32)) => X p l e (yR 4 (if gti = 0 then 10 else 0) (if gti = 0 then 90 else 0)) s m args below meth c D A H0 5 Q [[(g, .inr (11, [.int gth, .ref gw, .ref gB, .ref gK, .ref gU, .ref gS, .int gbe, .int gwo, .long gta, .ref gn, .int glr, .int glc, .int gti, .int ggo, .ref gR, .int gch, .ref gD]))], [(gn, .inr (10, [.int gnr, .int gnk, .int gnc, .int gng, .int gns, .ref gna, .ref gnb]))], [(gS, .inl (cy 3, 5, .inr (.inr (.inr (.inr (yad gSd))))))], xg_rows gSd 5 (cy 1) 5 gSG, [(gD, .inl (cy 3, gDn, .inr (.inr (.inr (.inr (yad gDd))))))], xg_rows gDd gDn (cy 1) gDk s_2.2] 0 0 [(0, .ref g), (1, .int i1), (2, .int i2), (3, .int s_2.1)] 31 []) ?_ _ (0, gDG) hb_2
    intro s_2 o_2 ho_2 hk_2 hx_2
    refine xr_iload_n (n := 32) (j := 3) C dd_X9_drain_0.2.2.2.2.2.2.2.2.2.2.2.2.2.1 rfl rfl ?_
    refine xr_aload_n (n := 33) (j := 0) C dd_X9_drain_0.2.2.2.2.2.2.2.2.2.2.2.2.2.2.1 rfl rfl ?_
    obtain ⟨x_33, hx_33, ho_2⟩ := yf_b ho_2
    refine xr_callVp (n := 36) (As := []) (rest := [.int s_2.1]) C (kX9_tileRows l D cy (g := g) (gth := gth) (gw := gw) (gB := gB) (gK := gK) (gU := gU) (gS := gS) (gbe := gbe) (gwo := gwo) (gta := gta) (gn := gn) (glr := glr) (glc := glc) (gti := gti) (ggo := ggo) (gR := gR) (gch := gch) (gD := gD) (gnr := gnr) (gnk := gnk) (gnc := gnc) (gng := gng) (gns := gns) (gna := gna) (gnb := gnb) hx_33) mX9_tileRows u_1443 u_1445 u_40 0 rfl rfl 6 [0, 1] [2, 3, 4, 5] rfl (by decide +kernel) rfl rfl rfl rfl (Nat.le_of_ble_eq_true rfl) (Nat.le_of_ble_eq_true rfl) (Nat.le_of_ble_eq_true rfl) (Nat.zero_le _) (Nat.zero_le _) dd_X9_drain_0.2.2.2.2.2.2.2.2.2.2.2.2.2.2.2.1 rfl (fun _ _ hp => hp.2) (fun v_34 hp_36 => ?_)
    obtain ⟨rfl, -⟩ := hp_36
    refine xr_st (st' := [.int x_33, .int s_2.1]) rfl ?_
    refine xr_icmp_ge (tgt := 99) (n := 39) C dd_X9_drain_1.1 rfl rfl (fun c_37 => ?_) (fun c_37 => ?_)
    · replace ho_2 := yf_t c_37 ho_2
      refine xr_lv (lv' := [(0, .ref g)]) [0] rfl ?_
      have e_38 := hx_2 _ (Option.some.inj ho_2).symm
      subst e_38
      exact K_2
    · replace ho_2 := yf_f c_37 ho_2
      refine xr_iconst (n := 40) (v := 0) C dd_X9_drain_1.2.1 rfl rfl ?_
      refine xr_istore (n := 42) C [(4, .int 0), (0, .ref g), (1, .int i1), (2, .int i2), (3, .int s_2.1)] dd_X9_drain_1.2.2.1 (by decide) rfl rfl ?_
      refine xr_lv (lv' := [(0, .ref g), (1, .int i1), (2, .int i2), (3, .int s_2.1), (4, .int 0)]) [1, 2, 3, 4, 0] rfl ?_
      obtain ⟨b_39, hb_39, ho_2⟩ := yf_b ho_2
      have K_39 : X p l e (yR 4 (if gti = 0 then 10 else 0) (if gti = 0 then 90 else 0)) s m args below meth c D A H0 5 Q [[(g, .inr (11, [.int gth, .ref gw, .ref gB, .ref gK, .ref gU, .ref gS, .int gbe, .int gwo, .long gta, .ref gn, .int glr, .int glc, .int gti, .int ggo, .ref gR, .int gch, .ref gD]))], [(gn, .inr (10, [.int gnr, .int gnk, .int gnc, .int gng, .int gns, .ref gna, .ref gnb]))], [(gS, .inl (cy 3, 5, .inr (.inr (.inr (.inr (yad gSd))))))], xg_rows gSd 5 (cy 1) 5 gSG, [(gD, .inl (cy 3, gDn, .inr (.inr (.inr (.inr (yad gDd))))))], xg_rows gDd gDn (cy 1) gDk b_39.2] 0 0 [(0, .ref g), (1, .int i1), (2, .int i2), (3, .int s_2.1)] 93 [] := by
        refine xr_iinc (j := 3) (v := s_2.1 + 1) (n := 96) C [(3, .int (s_2.1 + 1)), (0, .ref g), (1, .int i1), (2, .int i2)] dd_X9_drain_2.2.2.2.2.2.2.2.2.2.2.2.2.2.2.2.1 rfl rfl (by decide) rfl rfl ?_
        refine xr_goto (tgt := 31) C dd_X9_drain_3.1 rfl ?_
        refine xr_lv (lv' := [(0, .ref g), (1, .int i1), (2, .int i2), (3, .int (s_2.1 + 1))]) [1, 2, 3, 0] rfl ?_
        exact hk_2 (s_2.1 + 1, b_39.2) (Option.some.inj ho_2).symm
      refine y_loop (P := fun (s_39 : Int32 × (Nat → Nat → Int32)) => X p l e (yR 4 (if gti = 0 then 10 else 0) (if gti = 0 then 90 else 0)) s m args below meth c D A H0 5 Q [[(g, .inr (11, [.int gth, .ref gw, .ref gB, .ref gK, .ref gU, .ref gS, .int gbe, .int gwo, .long gta, .ref gn, .int glr, .int glc, .int gti, .int ggo, .ref gR, .int gch, .ref gD]))], [(gn, .inr (10, [.int gnr, .int gnk, .int gnc, .int gng, .int gns, .ref gna, .ref gnb]))], [(gS, .inl (cy 3, 5, .inr (.inr (.inr (.inr (yad gSd))))))], xg_rows gSd 5 (cy 1) 5 gSG, [(gD, .inl (cy 3, gDn, .inr (.inr (.inr (.inr (yad gDd))))))], xg_rows gDd gDn (cy 1) gDk s_39.2] 0 0 [(0, .ref g), (1, .int i1), (2, .int i2), (3, .int s_2.1), (4, .int s_39.1)] 42 []) ?_ _ (0, s_2.2) hb_39
      intro s_39 o_39 ho_39 hk_39 hx_39
      refine xr_iload (n := 44) (j := 4) C dd_X9_drain_1.2.2.2.1 rfl rfl ?_
      refine xr_aload_n (n := 45) (j := 0) C dd_X9_drain_1.2.2.2.2.1 rfl rfl ?_
      obtain ⟨x_40, hx_40, ho_39⟩ := yf_b ho_39
      refine xr_callVp (n := 48) (As := []) (rest := [.int s_39.1]) C (kX9_tileColumns l D cy (g := g) (gth := gth) (gw := gw) (gB := gB) (gK := gK) (gU := gU) (gS := gS) (gbe := gbe) (gwo := gwo) (gta := gta) (gn := gn) (glr := glr) (glc := glc) (gti := gti) (ggo := ggo) (gR := gR) (gch := gch) (gD := gD) (gnr := gnr) (gnk := gnk) (gnc := gnc) (gng := gng) (gns := gns) (gna := gna) (gnb := gnb) hx_40) mX9_tileColumns u_1447 u_1449 u_41 0 rfl rfl 6 [0, 1] [2, 3, 4, 5] rfl (by decide +kernel) rfl rfl rfl rfl (Nat.le_of_ble_eq_true rfl) (Nat.le_of_ble_eq_true rfl) (Nat.le_of_ble_eq_true rfl) (Nat.zero_le _) (Nat.zero_le _) dd_X9_drain_1.2.2.2.2.2.1 rfl (fun _ _ hp => hp.2) (fun v_41 hp_43 => ?_)
      obtain ⟨rfl, -⟩ := hp_43
      refine xr_st (st' := [.int x_40, .int s_39.1]) rfl ?_
      refine xr_icmp_ge (tgt := 93) (n := 51) C dd_X9_drain_1.2.2.2.2.2.2.1 rfl rfl (fun c_44 => ?_) (fun c_44 => ?_)
      · replace ho_39 := yf_t c_44 ho_39
        refine xr_lv (lv' := [(0, .ref g), (1, .int i1), (2, .int i2), (3, .int s_2.1)]) [0, 1, 2, 3] rfl ?_
        have e_45 := hx_39 _ (Option.some.inj ho_39).symm
        subst e_45
        exact K_39
      · replace ho_39 := yf_f c_44 ho_39
        refine xr_aload_n (n := 52) (j := 0) C dd_X9_drain_1.2.2.2.2.2.2.2.1 rfl rfl ?_
        refine xr_get (n := 55) C 0 rfl rfl 16 (by decide) in_X9 u_1253 rfl (v := .ref gD) rfl dd_X9_drain_1.2.2.2.2.2.2.2.2.1 rfl ?_
        refine xr_iload_n (n := 56) (j := 1) C dd_X9_drain_1.2.2.2.2.2.2.2.2.2.1 rfl rfl ?_
        refine xr_iload_n (n := 57) (j := 3) C dd_X9_drain_1.2.2.2.2.2.2.2.2.2.2.1 rfl rfl ?_
        refine xr_iadd (n := 58) C dd_X9_drain_1.2.2.2.2.2.2.2.2.2.2.2.1 rfl ?_
        obtain ⟨g_46, ho_39⟩ := yf_g ho_39
        refine xr_aald (n := 59) C 4 0 rfl 3 rfl rfl g_46 rfl dd_X9_drain_1.2.2.2.2.2.2.2.2.2.2.2.2.1 rfl ?_
        refine xr_iload_n (n := 60) (j := 2) C dd_X9_drain_1.2.2.2.2.2.2.2.2.2.2.2.2.2.1 rfl rfl ?_
        refine xr_iload (n := 62) (j := 4) C dd_X9_drain_1.2.2.2.2.2.2.2.2.2.2.2.2.2.2.1 rfl rfl ?_
        refine xr_iadd (n := 63) C dd_X9_drain_1.2.2.2.2.2.2.2.2.2.2.2.2.2.2.2.1 rfl ?_
        refine xr_aload_n (n := 64) (j := 0) C dd_X9_drain_2.1 rfl rfl ?_
        refine xr_get (n := 67) C 0 rfl rfl 5 (by decide) in_X9 u_1242 rfl (v := .ref gS) rfl dd_X9_drain_2.2.1 rfl ?_
        refine xr_aload_n (n := 68) (j := 0) C dd_X9_drain_2.2.2.1 rfl rfl ?_
        refine xr_get (n := 71) C 0 rfl rfl 10 (by decide) in_X9 u_1247 rfl (v := .int glr) rfl dd_X9_drain_2.2.2.2.1 rfl ?_
        refine xr_iload_n (n := 72) (j := 3) C dd_X9_drain_2.2.2.2.2.1 rfl rfl ?_
        obtain ⟨x_47, hx_47, ho_39⟩ := yf_b ho_39
        refine xr_callSp (n := 75) (As := [.int glr, .int s_2.1]) (rest := [.ref gS, .int (i2 + s_39.1), .ref (gDd (i1 + s_2.1).toNatClampNeg)]) C (kX9_nth l D cy (i1 := glr) (i2 := s_2.1) hx_47) mX9_nth u_1455 u_1456 6 [] [0, 1, 2, 3, 4, 5] rfl (by decide +kernel) rfl rfl rfl rfl (Nat.le_of_ble_eq_true rfl) (Nat.le_of_ble_eq_true rfl) (Nat.le_of_ble_eq_true rfl) (Nat.zero_le _) (Nat.zero_le _) dd_X9_drain_2.2.2.2.2.2.1 rfl (fun _ _ hp => hp.2) (fun v_48 hp_50 => ?_)
        obtain ⟨rfl, -⟩ := hp_50
        refine xr_st (st' := [.int x_47, .ref gS, .int (i2 + s_39.1), .ref (gDd (i1 + s_2.1).toNatClampNeg)]) rfl ?_
        obtain ⟨g_51, ho_39⟩ := yf_g ho_39
        refine xr_aald (n := 76) C 2 0 rfl 3 rfl rfl g_51 rfl dd_X9_drain_2.2.2.2.2.2.2.1 rfl ?_
        refine xr_aload_n (n := 77) (j := 0) C dd_X9_drain_2.2.2.2.2.2.2.2.1 rfl rfl ?_
        refine xr_get (n := 80) C 0 rfl rfl 11 (by decide) in_X9 u_1248 rfl (v := .int glc) rfl dd_X9_drain_2.2.2.2.2.2.2.2.2.1 rfl ?_
        refine xr_iload (n := 82) (j := 4) C dd_X9_drain_2.2.2.2.2.2.2.2.2.2.1 rfl rfl ?_
        obtain ⟨x_52, hx_52, ho_39⟩ := yf_b ho_39
        refine xr_callSp (n := 85) (As := [.int glc, .int s_39.1]) (rest := [.ref (gSd x_47.toNatClampNeg), .int (i2 + s_39.1), .ref (gDd (i1 + s_2.1).toNatClampNeg)]) C (kX9_nth l D cy (i1 := glc) (i2 := s_39.1) hx_52) mX9_nth u_1455 u_1456 6 [] [0, 1, 2, 3, 4, 5] rfl (by decide +kernel) rfl rfl rfl rfl (Nat.le_of_ble_eq_true rfl) (Nat.le_of_ble_eq_true rfl) (Nat.le_of_ble_eq_true rfl) (Nat.zero_le _) (Nat.zero_le _) dd_X9_drain_2.2.2.2.2.2.2.2.2.2.2.1 rfl (fun _ _ hp => hp.2) (fun v_53 hp_55 => ?_)
        obtain ⟨rfl, -⟩ := hp_55
        refine xr_st (st' := [.int x_52, .ref (gSd x_47.toNatClampNeg), .int (i2 + s_39.1), .ref (gDd (i1 + s_2.1).toNatClampNeg)]) rfl ?_
        obtain ⟨g_56, ho_39⟩ := yf_g ho_39
        refine xr_ialdg (n := 86) C 3 rfl x_47.toNatClampNeg (ylt g_51) g_56 dd_X9_drain_2.2.2.2.2.2.2.2.2.2.2.2.1 rfl ?_
        obtain ⟨g_57, ho_39⟩ := yf_g ho_39
        refine xr_iastg (n := 87) C 5 rfl ((i1 + s_2.1).toNatClampNeg) (ylt g_46) g_57 [[(g, .inr (11, [.int gth, .ref gw, .ref gB, .ref gK, .ref gU, .ref gS, .int gbe, .int gwo, .long gta, .ref gn, .int glr, .int glc, .int gti, .int ggo, .ref gR, .int gch, .ref gD]))], [(gn, .inr (10, [.int gnr, .int gnk, .int gnc, .int gng, .int gns, .ref gna, .ref gnb]))], [(gS, .inl (cy 3, 5, .inr (.inr (.inr (.inr (yad gSd))))))], xg_rows gSd 5 (cy 1) 5 gSG, [(gD, .inl (cy 3, gDn, .inr (.inr (.inr (.inr (yad gDd))))))], xg_rows gDd gDn (cy 1) gDk (upg s_39.2 ((i1 + s_2.1).toNatClampNeg) (i2 + s_39.1).toNatClampNeg (gSG x_47.toNatClampNeg x_52.toNatClampNeg))] rfl dd_X9_drain_2.2.2.2.2.2.2.2.2.2.2.2.2.1 rfl ?_
        refine xr_iinc (j := 4) (v := s_39.1 + 1) (n := 90) C [(4, .int (s_39.1 + 1)), (0, .ref g), (1, .int i1), (2, .int i2), (3, .int s_2.1)] dd_X9_drain_2.2.2.2.2.2.2.2.2.2.2.2.2.2.1 rfl rfl (by decide) rfl rfl ?_
        refine xr_goto (tgt := 42) C dd_X9_drain_2.2.2.2.2.2.2.2.2.2.2.2.2.2.2.1 rfl ?_
        refine xr_lv (lv' := [(0, .ref g), (1, .int i1), (2, .int i2), (3, .int s_2.1), (4, .int (s_39.1 + 1))]) [1, 2, 3, 4, 0] rfl ?_
        exact hk_39 (s_39.1 + 1, upg s_39.2 ((i1 + s_2.1).toNatClampNeg) (i2 + s_39.1).toNatClampNeg (gSG x_47.toNatClampNeg x_52.toNatClampNeg)) (Option.some.inj ho_39).symm
  · replace hR := yf_t c_1 hR
    refine xr_aload_n (n := 8) (j := 0) C dd_X9_drain_0.2.2.2.1 rfl rfl ?_
    refine xr_aload_n (n := 9) (j := 0) C dd_X9_drain_0.2.2.2.2.1 rfl rfl ?_
    refine xr_get (n := 12) C 0 rfl rfl 9 (by decide) in_X9 u_1246 rfl (v := .ref gn) rfl dd_X9_drain_0.2.2.2.2.2.1 rfl ?_
    obtain ⟨x_58, hx_58, hR⟩ := yf_b hR
    refine xr_callVp (n := 15) (As := []) (rest := [.ref g]) C (kX8_rows l D cy (w := gn) (wr := gnr) (wk := gnk) (wc := gnc) (wg := gng) (ws := gns) (wa := gna) (wb := gnb) hx_58) mX8_rows u_1384 u_1385 u_1386 1 rfl rfl 6 [1] [0, 2, 3, 4, 5] rfl (by decide +kernel) rfl rfl rfl rfl (Nat.le_of_ble_eq_true rfl) (Nat.le_of_ble_eq_true rfl) (Nat.le_of_ble_eq_true rfl) (Nat.zero_le _) (Nat.zero_le _) dd_X9_drain_0.2.2.2.2.2.2.1 rfl (fun _ _ hp => hp.2) (fun v_59 hp_61 => ?_)
    obtain ⟨rfl, -⟩ := hp_61
    refine xr_st (st' := [.int x_58, .ref g]) rfl ?_
    refine xr_aload_n (n := 16) (j := 0) C dd_X9_drain_0.2.2.2.2.2.2.2.1 rfl rfl ?_
    refine xr_get (n := 19) C 0 rfl rfl 9 (by decide) in_X9 u_1246 rfl (v := .ref gn) rfl dd_X9_drain_0.2.2.2.2.2.2.2.2.1 rfl ?_
    obtain ⟨x_62, hx_62, hR⟩ := yf_b hR
    refine xr_callVp (n := 22) (As := []) (rest := [.int x_58, .ref g]) C (kX8_columns l D cy (w := gn) (wr := gnr) (wk := gnk) (wc := gnc) (wg := gng) (ws := gns) (wa := gna) (wb := gnb) hx_62) mX8_columns u_1391 u_1392 u_1393 1 rfl rfl 6 [1] [0, 2, 3, 4, 5] rfl (by decide +kernel) rfl rfl rfl rfl (Nat.le_of_ble_eq_true rfl) (Nat.le_of_ble_eq_true rfl) (Nat.le_of_ble_eq_true rfl) (Nat.zero_le _) (Nat.zero_le _) dd_X9_drain_0.2.2.2.2.2.2.2.2.2.1 rfl (fun _ _ hp => hp.2) (fun v_63 hp_65 => ?_)
    obtain ⟨rfl, -⟩ := hp_65
    refine xr_st (st' := [.int x_62, .int x_58, .ref g]) rfl ?_
    obtain ⟨g_68, hR⟩ := yf_g hR
    refine xr_mnaI (n := 26) (N' := x_58.toNatClampNeg) (K' := x_62.toNatClampNeg) (cb := 10) (sb := 90) C u_1231 (by decide) u_108 g_68.1 g_68.2.1 rfl rfl g_68.2.2.1 g_68.2.2.2 (by have := g_68.2.2.1; omega) (ymul9 g_68.2.2.1 g_68.2.2.2) (by show 0 + 10 ≤ (if gti = 0 then 10 else 0); rw [if_pos c_1]; decide) (by show 0 + 90 ≤ (if gti = 0 then 90 else 0); rw [if_pos c_1]; decide) dX9_drain_22 rfl (fun q_66 ad_67 => ?_)
    refine xr_eq (bs' := [[(g, .inr (11, [.int gth, .ref gw, .ref gB, .ref gK, .ref gU, .ref gS, .int gbe, .int gwo, .long gta, .ref gn, .int glr, .int glc, .int gti, .int ggo, .ref gR, .int gch, .ref gD]))], [(gn, .inr (10, [.int gnr, .int gnk, .int gnc, .int gng, .int gns, .ref gna, .ref gnb]))], [(gS, .inl (cy 3, 5, .inr (.inr (.inr (.inr (yad gSd))))))], xg_rows gSd 5 (cy 1) 5 gSG, [(gD, .inl (cy 3, gDn, .inr (.inr (.inr (.inr (yad gDd))))))], xg_rows gDd gDn (cy 1) gDk gDG, [(q_66, .inl (cy 3, x_58.toNatClampNeg, .inr (.inr (.inr (.inr (yad ad_67))))))], xg_rows ad_67 x_58.toNatClampNeg (cy 1) x_62.toNatClampNeg (fun _ _ => 0)]) rfl ?_
    refine xr_put (n := 29) C 0 rfl rfl 16 (by decide) in_X9 tyX9 tyX9_ok nmX9 u_1253 rfl rfl rfl rfl (Nat.le_of_ble_eq_true rfl) [[(g, .inr (11, [.int gth, .ref gw, .ref gB, .ref gK, .ref gU, .ref gS, .int gbe, .int gwo, .long gta, .ref gn, .int glr, .int glc, .int gti, .int ggo, .ref gR, .int gch, .ref q_66]))], [(gn, .inr (10, [.int gnr, .int gnk, .int gnc, .int gng, .int gns, .ref gna, .ref gnb]))], [(gS, .inl (cy 3, 5, .inr (.inr (.inr (.inr (yad gSd))))))], xg_rows gSd 5 (cy 1) 5 gSG, [(gD, .inl (cy 3, gDn, .inr (.inr (.inr (.inr (yad gDd))))))], xg_rows gDd gDn (cy 1) gDk gDG, [(q_66, .inl (cy 3, x_58.toNatClampNeg, .inr (.inr (.inr (.inr (yad ad_67))))))], xg_rows ad_67 x_58.toNatClampNeg (cy 1) x_62.toNatClampNeg (fun _ _ => 0)] rfl rfl dd_X9_drain_0.2.2.2.2.2.2.2.2.2.2.1 ?_
    refine xr_iconst (n := 30) (v := 0) C dd_X9_drain_0.2.2.2.2.2.2.2.2.2.2.2.1 rfl rfl ?_
    refine xr_istore_n (n := 31) C [(3, .int 0), (0, .ref g), (1, .int i1), (2, .int i2)] dd_X9_drain_0.2.2.2.2.2.2.2.2.2.2.2.2.1 (by decide) rfl rfl ?_
    refine xr_lv (lv' := [(0, .ref g), (1, .int i1), (2, .int i2), (3, .int 0)]) [1, 2, 3, 0] rfl ?_
    obtain ⟨b_110, hb_110, hR⟩ := yf_b hR
    have K_110 : X p l e (yR 4 (if gti = 0 then 10 else 0) (if gti = 0 then 90 else 0)) s m args below meth c D A H0 5 Q [[(g, .inr (11, [.int gth, .ref gw, .ref gB, .ref gK, .ref gU, .ref gS, .int gbe, .int gwo, .long gta, .ref gn, .int glr, .int glc, .int gti, .int ggo, .ref gR, .int gch, .ref q_66]))], [(gn, .inr (10, [.int gnr, .int gnk, .int gnc, .int gng, .int gns, .ref gna, .ref gnb]))], [(gS, .inl (cy 3, 5, .inr (.inr (.inr (.inr (yad gSd))))))], xg_rows gSd 5 (cy 1) 5 gSG, [(gD, .inl (cy 3, gDn, .inr (.inr (.inr (.inr (yad gDd))))))], xg_rows gDd gDn (cy 1) gDk gDG, [(q_66, .inl (cy 3, x_58.toNatClampNeg, .inr (.inr (.inr (.inr (yad ad_67))))))], xg_rows ad_67 x_58.toNatClampNeg (cy 1) x_62.toNatClampNeg b_110.2] (0 + 10) (0 + 90) [(0, .ref g)] 99 [] := by
      refine xr_aload_n (n := 100) (j := 0) C dd_X9_drain_3.2.1 rfl rfl ?_
      refine xr_dup (n := 101) C dd_X9_drain_3.2.2.1 rfl rfl ?_
      refine xr_get (n := 104) C 0 rfl rfl 12 (by decide) in_X9 u_1249 rfl (v := .int gti) rfl dd_X9_drain_3.2.2.2.1 rfl ?_
      refine xr_iconst (n := 105) (v := 1) C dd_X9_drain_3.2.2.2.2.1 rfl rfl ?_
      refine xr_iadd (n := 106) C dd_X9_drain_3.2.2.2.2.2.1 rfl ?_
      refine xr_put (n := 109) C 0 rfl rfl 12 (by decide) in_X9 tyX9 tyX9_ok nmX9 u_1249 rfl rfl rfl rfl (Nat.le_of_ble_eq_true rfl) [[(g, .inr (11, [.int gth, .ref gw, .ref gB, .ref gK, .ref gU, .ref gS, .int gbe, .int gwo, .long gta, .ref gn, .int glr, .int glc, .int (gti + 1), .int ggo, .ref gR, .int gch, .ref q_66]))], [(gn, .inr (10, [.int gnr, .int gnk, .int gnc, .int gng, .int gns, .ref gna, .ref gnb]))], [(gS, .inl (cy 3, 5, .inr (.inr (.inr (.inr (yad gSd))))))], xg_rows gSd 5 (cy 1) 5 gSG, [(gD, .inl (cy 3, gDn, .inr (.inr (.inr (.inr (yad gDd))))))], xg_rows gDd gDn (cy 1) gDk gDG, [(q_66, .inl (cy 3, x_58.toNatClampNeg, .inr (.inr (.inr (.inr (yad ad_67))))))], xg_rows ad_67 x_58.toNatClampNeg (cy 1) x_62.toNatClampNeg b_110.2] rfl rfl dd_X9_drain_3.2.2.2.2.2.2.1 ?_
      refine xr_aload_n (n := 110) (j := 0) C dd_X9_drain_3.2.2.2.2.2.2.2.1 rfl rfl ?_
      refine xr_get (n := 113) C 0 rfl rfl 12 (by decide) in_X9 u_1249 rfl (v := .int (gti + 1)) rfl dd_X9_drain_3.2.2.2.2.2.2.2.2.1 rfl ?_
      refine xr_aload_n (n := 114) (j := 0) C dd_X9_drain_3.2.2.2.2.2.2.2.2.2.1 rfl rfl ?_
      refine xr_get (n := 117) C 0 rfl rfl 9 (by decide) in_X9 u_1246 rfl (v := .ref gn) rfl dd_X9_drain_3.2.2.2.2.2.2.2.2.2.2.1 rfl ?_
      obtain ⟨x_111, hx_111, hR⟩ := yf_b hR
      refine xr_callVp (n := 120) (As := []) (rest := [.int (gti + 1)]) C (kX8_rows l D cy (w := gn) (wr := gnr) (wk := gnk) (wc := gnc) (wg := gng) (ws := gns) (wa := gna) (wb := gnb) hx_111) mX8_rows u_1384 u_1385 u_1386 1 rfl rfl 8 [1] [0, 2, 3, 4, 5, 6, 7] rfl (by decide +kernel) rfl rfl rfl rfl (Nat.le_of_ble_eq_true rfl) (Nat.le_of_ble_eq_true rfl) (Nat.le_of_ble_eq_true rfl) (by show 0 + 10 + 0 ≤ (if gti = 0 then 10 else 0); rw [if_pos c_1]; decide) (by show 0 + 90 + 0 ≤ (if gti = 0 then 90 else 0); rw [if_pos c_1]; decide) dd_X9_drain_3.2.2.2.2.2.2.2.2.2.2.2.1 rfl (fun _ _ hp => hp.2) (fun v_112 hp_114 => ?_)
      obtain ⟨rfl, -⟩ := hp_114
      refine xr_st (st' := [.int x_111, .int (gti + 1)]) rfl ?_
      refine xr_aload_n (n := 121) (j := 0) C dd_X9_drain_3.2.2.2.2.2.2.2.2.2.2.2.2.1 rfl rfl ?_
      obtain ⟨x_115, hx_115, hR⟩ := yf_b hR
      refine xr_callVp (n := 124) (As := []) (rest := [.int x_111, .int (gti + 1)]) C (kX9_h l D cy (g := g) (gth := gth) (gw := gw) (gB := gB) (gK := gK) (gU := gU) (gS := gS) (gbe := gbe) (gwo := gwo) (gta := gta) (gn := gn) (glr := glr) (glc := glc) (gti := gti + 1) (ggo := ggo) (gR := gR) (gch := gch) (gD := q_66) hx_115) mX9_h u_1430 u_1432 u_38 0 rfl rfl 8 [0] [1, 2, 3, 4, 5, 6, 7] rfl (by decide +kernel) rfl rfl rfl rfl (Nat.le_of_ble_eq_true rfl) (Nat.le_of_ble_eq_true rfl) (Nat.le_of_ble_eq_true rfl) (by show 0 + 10 + 0 ≤ (if gti = 0 then 10 else 0); rw [if_pos c_1]; decide) (by show 0 + 90 + 0 ≤ (if gti = 0 then 90 else 0); rw [if_pos c_1]; decide) dd_X9_drain_3.2.2.2.2.2.2.2.2.2.2.2.2.2.1 rfl (fun _ _ hp => hp.2) (fun v_116 hp_118 => ?_)
      obtain ⟨rfl, -⟩ := hp_118
      refine xr_st (st' := [.int x_115, .int x_111, .int (gti + 1)]) rfl ?_
      obtain ⟨x_119, hx_119, hR⟩ := yf_b hR
      refine xr_callSp (n := 127) (As := [.int x_111, .int x_115]) (rest := [.int (gti + 1)]) C (kX9_tiles l D cy (i1 := x_111) (i2 := x_115) hx_119) mX9_tiles u_1388 u_1389 8 [] [0, 1, 2, 3, 4, 5, 6, 7] rfl (by decide +kernel) rfl rfl rfl rfl (Nat.le_of_ble_eq_true rfl) (Nat.le_of_ble_eq_true rfl) (Nat.le_of_ble_eq_true rfl) (by show 0 + 10 + 0 ≤ (if gti = 0 then 10 else 0); rw [if_pos c_1]; decide) (by show 0 + 90 + 0 ≤ (if gti = 0 then 90 else 0); rw [if_pos c_1]; decide) dd_X9_drain_3.2.2.2.2.2.2.2.2.2.2.2.2.2.2.1 rfl (fun _ _ hp => hp.2) (fun v_120 hp_122 => ?_)
      obtain ⟨rfl, -⟩ := hp_122
      refine xr_st (st' := [.int x_119, .int (gti + 1)]) rfl ?_
      refine xr_aload_n (n := 128) (j := 0) C dd_X9_drain_3.2.2.2.2.2.2.2.2.2.2.2.2.2.2.2.1 rfl rfl ?_
      refine xr_get (n := 131) C 0 rfl rfl 9 (by decide) in_X9 u_1246 rfl (v := .ref gn) rfl dd_X9_drain_4.1 rfl ?_
      obtain ⟨x_123, hx_123, hR⟩ := yf_b hR
      refine xr_callVp (n := 134) (As := []) (rest := [.int x_119, .int (gti + 1)]) C (kX8_columns l D cy (w := gn) (wr := gnr) (wk := gnk) (wc := gnc) (wg := gng) (ws := gns) (wa := gna) (wb := gnb) hx_123) mX8_columns u_1391 u_1392 u_1393 1 rfl rfl 8 [1] [0, 2, 3, 4, 5, 6, 7] rfl (by decide +kernel) rfl rfl rfl rfl (Nat.le_of_ble_eq_true rfl) (Nat.le_of_ble_eq_true rfl) (Nat.le_of_ble_eq_true rfl) (by show 0 + 10 + 0 ≤ (if gti = 0 then 10 else 0); rw [if_pos c_1]; decide) (by show 0 + 90 + 0 ≤ (if gti = 0 then 90 else 0); rw [if_pos c_1]; decide) dd_X9_drain_4.2.1 rfl (fun _ _ hp => hp.2) (fun v_124 hp_126 => ?_)
      obtain ⟨rfl, -⟩ := hp_126
      refine xr_st (st' := [.int x_123, .int x_119, .int (gti + 1)]) rfl ?_
      refine xr_aload_n (n := 135) (j := 0) C dd_X9_drain_4.2.2.1 rfl rfl ?_
      obtain ⟨x_127, hx_127, hR⟩ := yf_b hR
      refine xr_callVp (n := 138) (As := []) (rest := [.int x_123, .int x_119, .int (gti + 1)]) C (kX9_w l D cy (g := g) (gth := gth) (gw := gw) (gB := gB) (gK := gK) (gU := gU) (gS := gS) (gbe := gbe) (gwo := gwo) (gta := gta) (gn := gn) (glr := glr) (glc := glc) (gti := gti + 1) (ggo := ggo) (gR := gR) (gch := gch) (gD := q_66) hx_127) mX9_w u_1426 u_1428 u_37 0 rfl rfl 8 [0] [1, 2, 3, 4, 5, 6, 7] rfl (by decide +kernel) rfl rfl rfl rfl (Nat.le_of_ble_eq_true rfl) (Nat.le_of_ble_eq_true rfl) (Nat.le_of_ble_eq_true rfl) (by show 0 + 10 + 0 ≤ (if gti = 0 then 10 else 0); rw [if_pos c_1]; decide) (by show 0 + 90 + 0 ≤ (if gti = 0 then 90 else 0); rw [if_pos c_1]; decide) dd_X9_drain_4.2.2.2.1 rfl (fun _ _ hp => hp.2) (fun v_128 hp_130 => ?_)
      obtain ⟨rfl, -⟩ := hp_130
      refine xr_st (st' := [.int x_127, .int x_123, .int x_119, .int (gti + 1)]) rfl ?_
      obtain ⟨x_131, hx_131, hR⟩ := yf_b hR
      refine xr_callSp (n := 141) (As := [.int x_123, .int x_127]) (rest := [.int x_119, .int (gti + 1)]) C (kX9_tiles l D cy (i1 := x_123) (i2 := x_127) hx_131) mX9_tiles u_1388 u_1389 8 [] [0, 1, 2, 3, 4, 5, 6, 7] rfl (by decide +kernel) rfl rfl rfl rfl (Nat.le_of_ble_eq_true rfl) (Nat.le_of_ble_eq_true rfl) (Nat.le_of_ble_eq_true rfl) (by show 0 + 10 + 0 ≤ (if gti = 0 then 10 else 0); rw [if_pos c_1]; decide) (by show 0 + 90 + 0 ≤ (if gti = 0 then 90 else 0); rw [if_pos c_1]; decide) dd_X9_drain_4.2.2.2.2.1 rfl (fun _ _ hp => hp.2) (fun v_132 hp_134 => ?_)
      obtain ⟨rfl, -⟩ := hp_134
      refine xr_st (st' := [.int x_131, .int x_119, .int (gti + 1)]) rfl ?_
      refine xr_imul (n := 142) C dd_X9_drain_4.2.2.2.2.2.1 rfl ?_
      refine xr_icmp_ge (tgt := 150) (n := 145) C dd_X9_drain_4.2.2.2.2.2.2.1 rfl rfl (fun c_135 => ?_) (fun c_135 => ?_)
      · replace hR := yf_t c_135 hR
        refine xr_aload_n (n := 151) (j := 0) C dd_X9_drain_4.2.2.2.2.2.2.2.2.2.2.1 rfl rfl ?_
        refine xr_aload_n (n := 152) (j := 0) C dd_X9_drain_4.2.2.2.2.2.2.2.2.2.2.2.1 rfl rfl ?_
        refine xr_get (n := 155) C 0 rfl rfl 16 (by decide) in_X9 u_1253 rfl (v := .ref q_66) rfl dd_X9_drain_4.2.2.2.2.2.2.2.2.2.2.2.2.1 rfl ?_
        refine xr_put (n := 158) C 0 rfl rfl 14 (by decide) in_X9 tyX9 tyX9_ok nmX9 u_1251 rfl rfl rfl rfl (Nat.le_of_ble_eq_true rfl) [[(g, .inr (11, [.int gth, .ref gw, .ref gB, .ref gK, .ref gU, .ref gS, .int gbe, .int gwo, .long gta, .ref gn, .int glr, .int glc, .int (gti + 1), .int ggo, .ref q_66, .int gch, .ref q_66]))], [(gn, .inr (10, [.int gnr, .int gnk, .int gnc, .int gng, .int gns, .ref gna, .ref gnb]))], [(gS, .inl (cy 3, 5, .inr (.inr (.inr (.inr (yad gSd))))))], xg_rows gSd 5 (cy 1) 5 gSG, [(gD, .inl (cy 3, gDn, .inr (.inr (.inr (.inr (yad gDd))))))], xg_rows gDd gDn (cy 1) gDk gDG, [(q_66, .inl (cy 3, x_58.toNatClampNeg, .inr (.inr (.inr (.inr (yad ad_67))))))], xg_rows ad_67 x_58.toNatClampNeg (cy 1) x_62.toNatClampNeg b_110.2] rfl rfl dd_X9_drain_4.2.2.2.2.2.2.2.2.2.2.2.2.2.1 ?_
        refine xr_aload_n (n := 159) (j := 0) C dd_X9_drain_4.2.2.2.2.2.2.2.2.2.2.2.2.2.2.1 rfl rfl ?_
        refine xr_aload_n (n := 160) (j := 0) C dd_X9_drain_4.2.2.2.2.2.2.2.2.2.2.2.2.2.2.2.1 rfl rfl ?_
        refine xr_get (n := 163) C 0 rfl rfl 9 (by decide) in_X9 u_1246 rfl (v := .ref gn) rfl dd_X9_drain_5.1 rfl ?_
        refine xr_get (n := 166) C 1 rfl rfl 4 (by decide) in_X8 u_1209 rfl (v := .int gns) rfl dd_X9_drain_5.2.1 rfl ?_
        obtain ⟨g_136, hR⟩ := yf_g hR
        refine xr_put (n := 169) C 0 rfl rfl 15 (by decide) in_X9 tyX9 tyX9_ok nmX9 u_1252 rfl rfl (ynz_f g_136) (ynz_n g_136) (Nat.le_of_ble_eq_true rfl) [[(g, .inr (11, [.int gth, .ref gw, .ref gB, .ref gK, .ref gU, .ref gS, .int gbe, .int gwo, .long gta, .ref gn, .int glr, .int glc, .int (gti + 1), .int ggo, .ref q_66, .int gns, .ref q_66]))], [(gn, .inr (10, [.int gnr, .int gnk, .int gnc, .int gng, .int gns, .ref gna, .ref gnb]))], [(gS, .inl (cy 3, 5, .inr (.inr (.inr (.inr (yad gSd))))))], xg_rows gSd 5 (cy 1) 5 gSG, [(gD, .inl (cy 3, gDn, .inr (.inr (.inr (.inr (yad gDd))))))], xg_rows gDd gDn (cy 1) gDk gDG, [(q_66, .inl (cy 3, x_58.toNatClampNeg, .inr (.inr (.inr (.inr (yad ad_67))))))], xg_rows ad_67 x_58.toNatClampNeg (cy 1) x_62.toNatClampNeg b_110.2] rfl rfl dd_X9_drain_5.2.2.1 ?_
        refine xr_aload_n (n := 170) (j := 0) C dd_X9_drain_5.2.2.2.1 rfl rfl ?_
        refine xr_null (n := 171) C dd_X9_drain_5.2.2.2.2.1 rfl ?_
        refine xr_put (n := 174) C 0 rfl rfl 9 (by decide) in_X9 tyX9 tyX9_ok nmX9 u_1246 rfl rfl rfl rfl (Nat.le_of_ble_eq_true rfl) [[(g, .inr (11, [.int gth, .ref gw, .ref gB, .ref gK, .ref gU, .ref gS, .int gbe, .int gwo, .long gta, .null, .int glr, .int glc, .int (gti + 1), .int ggo, .ref q_66, .int gns, .ref q_66]))], [(gn, .inr (10, [.int gnr, .int gnk, .int gnc, .int gng, .int gns, .ref gna, .ref gnb]))], [(gS, .inl (cy 3, 5, .inr (.inr (.inr (.inr (yad gSd))))))], xg_rows gSd 5 (cy 1) 5 gSG, [(gD, .inl (cy 3, gDn, .inr (.inr (.inr (.inr (yad gDd))))))], xg_rows gDd gDn (cy 1) gDk gDG, [(q_66, .inl (cy 3, x_58.toNatClampNeg, .inr (.inr (.inr (.inr (yad ad_67))))))], xg_rows ad_67 x_58.toNatClampNeg (cy 1) x_62.toNatClampNeg b_110.2] rfl rfl dd_X9_drain_5.2.2.2.2.2.1 ?_
        obtain rfl := Option.some.inj hR
        refine xr_perm C 8 [0, 2, 3, 6, 7] [1, 4, 5] [[(g, .inr (11, [.int gth, .ref gw, .ref gB, .ref gK, .ref gU, .ref gS, .int gbe, .int gwo, .long gta, .null, .int glr, .int glc, .int (gti + 1), .int ggo, .ref q_66, .int gns, .ref q_66]))], [(gS, .inl (cy 3, 5, .inr (.inr (.inr (.inr (yad gSd))))))], xg_rows gSd 5 (cy 1) 5 gSG, [(q_66, .inl (cy 3, x_58.toNatClampNeg, .inr (.inr (.inr (.inr (yad ad_67))))))], xg_rows ad_67 x_58.toNatClampNeg (cy 1) x_62.toNatClampNeg b_110.2] rfl (by decide +kernel) rfl ?_
        exact ret (Or.inr ⟨_, rfl, q_66, ad_67, rfl, rfl⟩) (by show 0 + 10 + 0 ≤ (if gti = 0 then 10 else 0); rw [if_pos c_1]; decide) (by show 0 + 90 + 0 ≤ (if gti = 0 then 90 else 0); rw [if_pos c_1]; decide) dd_X9_drain_5.2.2.2.2.2.2.1
      · replace hR := yf_f c_135 hR
        refine xr_aload_n (n := 146) (j := 0) C dd_X9_drain_4.2.2.2.2.2.2.2.1 rfl rfl ?_
        obtain ⟨x_137, hx_137, hR⟩ := yf_b hR
        refine xr_callV (n := 149) (As := []) (rest := []) C (kX9_begin l D cy (g := g) (gth := gth) (gw := gw) (gB := gB) (gK := gK) (gU := gU) (gS := gS) (gbe := gbe) (gwo := gwo) (gta := gta) (gn := gn) (glr := glr) (glc := glc) (gti := gti + 1) (ggo := ggo) (gR := gR) (gch := gch) (gD := q_66) (gnr := gnr) (gnk := gnk) (gnc := gnc) (gng := gng) (gns := gns) (gna := gna) (gnb := gnb) (gSd := gSd) (gSG := gSG) hx_137) mX9_begin u_1410 u_1412 u_34 0 rfl rfl 8 [0, 1, 2, 3] [4, 5, 6, 7] rfl (by decide +kernel) rfl rfl rfl rfl (Nat.le_of_ble_eq_true rfl) (Nat.le_of_ble_eq_true rfl) (Nat.le_of_ble_eq_true rfl) (by show 0 + 10 + 0 ≤ (if gti = 0 then 10 else 0); rw [if_pos c_1]; decide) (by show 0 + 90 + 0 ≤ (if gti = 0 then 90 else 0); rw [if_pos c_1]; decide) dd_X9_drain_4.2.2.2.2.2.2.2.2.1 rfl (fun v_138 u_139 hp_140 => ?_)
        obtain ⟨rfl, rfl⟩ := hp_140
        refine xr_perm C 8 [0, 1, 2, 3, 4, 5, 6, 7] [] [[(g, .inr (11, [.int gth, .ref gw, .ref gB, .ref gK, .ref gU, .ref gS, .int gbe, .int gwo, .long gta, .ref gn, .int glr, .int glc, .int (gti + 1), .int x_137.1, .ref gR, .int gch, .ref q_66]))], [(gn, .inr (10, [.int gnr, .int gnk, .int gnc, .int gng, .int gns, .ref gna, .ref gnb]))], [(gS, .inl (cy 3, 5, .inr (.inr (.inr (.inr (yad gSd))))))], xg_rows gSd 5 (cy 1) 5 x_137.2, [(gD, .inl (cy 3, gDn, .inr (.inr (.inr (.inr (yad gDd))))))], xg_rows gDd gDn (cy 1) gDk gDG, [(q_66, .inl (cy 3, x_58.toNatClampNeg, .inr (.inr (.inr (.inr (yad ad_67))))))], xg_rows ad_67 x_58.toNatClampNeg (cy 1) x_62.toNatClampNeg b_110.2] rfl (by decide +kernel) rfl ?_
        obtain rfl := Option.some.inj hR
        refine xr_perm C 8 [0, 1, 2, 3, 6, 7] [4, 5] [[(g, .inr (11, [.int gth, .ref gw, .ref gB, .ref gK, .ref gU, .ref gS, .int gbe, .int gwo, .long gta, .ref gn, .int glr, .int glc, .int (gti + 1), .int x_137.1, .ref gR, .int gch, .ref q_66]))], [(gn, .inr (10, [.int gnr, .int gnk, .int gnc, .int gng, .int gns, .ref gna, .ref gnb]))], [(gS, .inl (cy 3, 5, .inr (.inr (.inr (.inr (yad gSd))))))], xg_rows gSd 5 (cy 1) 5 x_137.2, [(q_66, .inl (cy 3, x_58.toNatClampNeg, .inr (.inr (.inr (.inr (yad ad_67))))))], xg_rows ad_67 x_58.toNatClampNeg (cy 1) x_62.toNatClampNeg b_110.2] rfl (by decide +kernel) rfl ?_
        exact ret (Or.inl ⟨_, rfl, q_66, ad_67, rfl, rfl⟩) (by show 0 + 10 + 0 ≤ (if gti = 0 then 10 else 0); rw [if_pos c_1]; decide) (by show 0 + 90 + 0 ≤ (if gti = 0 then 90 else 0); rw [if_pos c_1]; decide) dd_X9_drain_4.2.2.2.2.2.2.2.2.2.1
    refine y_loop (P := fun (s_110 : Int32 × (Nat → Nat → Int32)) => X p l e (yR 4 (if gti = 0 then 10 else 0) (if gti = 0 then 90 else 0)) s m args below meth c D A H0 5 Q [[(g, .inr (11, [.int gth, .ref gw, .ref gB, .ref gK, .ref gU, .ref gS, .int gbe, .int gwo, .long gta, .ref gn, .int glr, .int glc, .int gti, .int ggo, .ref gR, .int gch, .ref q_66]))], [(gn, .inr (10, [.int gnr, .int gnk, .int gnc, .int gng, .int gns, .ref gna, .ref gnb]))], [(gS, .inl (cy 3, 5, .inr (.inr (.inr (.inr (yad gSd))))))], xg_rows gSd 5 (cy 1) 5 gSG, [(gD, .inl (cy 3, gDn, .inr (.inr (.inr (.inr (yad gDd))))))], xg_rows gDd gDn (cy 1) gDk gDG, [(q_66, .inl (cy 3, x_58.toNatClampNeg, .inr (.inr (.inr (.inr (yad ad_67))))))], xg_rows ad_67 x_58.toNatClampNeg (cy 1) x_62.toNatClampNeg s_110.2] (0 + 10) (0 + 90) [(0, .ref g), (1, .int i1), (2, .int i2), (3, .int s_110.1)] 31 []) ?_ _ (0, fun _ _ => 0) hb_110
    intro s_110 o_110 ho_110 hk_110 hx_110
    refine xr_iload_n (n := 32) (j := 3) C dd_X9_drain_0.2.2.2.2.2.2.2.2.2.2.2.2.2.1 rfl rfl ?_
    refine xr_aload_n (n := 33) (j := 0) C dd_X9_drain_0.2.2.2.2.2.2.2.2.2.2.2.2.2.2.1 rfl rfl ?_
    obtain ⟨x_141, hx_141, ho_110⟩ := yf_b ho_110
    refine xr_callVp (n := 36) (As := []) (rest := [.int s_110.1]) C (kX9_tileRows l D cy (g := g) (gth := gth) (gw := gw) (gB := gB) (gK := gK) (gU := gU) (gS := gS) (gbe := gbe) (gwo := gwo) (gta := gta) (gn := gn) (glr := glr) (glc := glc) (gti := gti) (ggo := ggo) (gR := gR) (gch := gch) (gD := q_66) (gnr := gnr) (gnk := gnk) (gnc := gnc) (gng := gng) (gns := gns) (gna := gna) (gnb := gnb) hx_141) mX9_tileRows u_1443 u_1445 u_40 0 rfl rfl 8 [0, 1] [2, 3, 4, 5, 6, 7] rfl (by decide +kernel) rfl rfl rfl rfl (Nat.le_of_ble_eq_true rfl) (Nat.le_of_ble_eq_true rfl) (Nat.le_of_ble_eq_true rfl) (by show 0 + 10 + 0 ≤ (if gti = 0 then 10 else 0); rw [if_pos c_1]; decide) (by show 0 + 90 + 0 ≤ (if gti = 0 then 90 else 0); rw [if_pos c_1]; decide) dd_X9_drain_0.2.2.2.2.2.2.2.2.2.2.2.2.2.2.2.1 rfl (fun _ _ hp => hp.2) (fun v_142 hp_144 => ?_)
    obtain ⟨rfl, -⟩ := hp_144
    refine xr_st (st' := [.int x_141, .int s_110.1]) rfl ?_
    refine xr_icmp_ge (tgt := 99) (n := 39) C dd_X9_drain_1.1 rfl rfl (fun c_145 => ?_) (fun c_145 => ?_)
    · replace ho_110 := yf_t c_145 ho_110
      refine xr_lv (lv' := [(0, .ref g)]) [0] rfl ?_
      have e_146 := hx_110 _ (Option.some.inj ho_110).symm
      subst e_146
      exact K_110
    · replace ho_110 := yf_f c_145 ho_110
      refine xr_iconst (n := 40) (v := 0) C dd_X9_drain_1.2.1 rfl rfl ?_
      refine xr_istore (n := 42) C [(4, .int 0), (0, .ref g), (1, .int i1), (2, .int i2), (3, .int s_110.1)] dd_X9_drain_1.2.2.1 (by decide) rfl rfl ?_
      refine xr_lv (lv' := [(0, .ref g), (1, .int i1), (2, .int i2), (3, .int s_110.1), (4, .int 0)]) [1, 2, 3, 4, 0] rfl ?_
      obtain ⟨b_147, hb_147, ho_110⟩ := yf_b ho_110
      have K_147 : X p l e (yR 4 (if gti = 0 then 10 else 0) (if gti = 0 then 90 else 0)) s m args below meth c D A H0 5 Q [[(g, .inr (11, [.int gth, .ref gw, .ref gB, .ref gK, .ref gU, .ref gS, .int gbe, .int gwo, .long gta, .ref gn, .int glr, .int glc, .int gti, .int ggo, .ref gR, .int gch, .ref q_66]))], [(gn, .inr (10, [.int gnr, .int gnk, .int gnc, .int gng, .int gns, .ref gna, .ref gnb]))], [(gS, .inl (cy 3, 5, .inr (.inr (.inr (.inr (yad gSd))))))], xg_rows gSd 5 (cy 1) 5 gSG, [(gD, .inl (cy 3, gDn, .inr (.inr (.inr (.inr (yad gDd))))))], xg_rows gDd gDn (cy 1) gDk gDG, [(q_66, .inl (cy 3, x_58.toNatClampNeg, .inr (.inr (.inr (.inr (yad ad_67))))))], xg_rows ad_67 x_58.toNatClampNeg (cy 1) x_62.toNatClampNeg b_147.2] (0 + 10) (0 + 90) [(0, .ref g), (1, .int i1), (2, .int i2), (3, .int s_110.1)] 93 [] := by
        refine xr_iinc (j := 3) (v := s_110.1 + 1) (n := 96) C [(3, .int (s_110.1 + 1)), (0, .ref g), (1, .int i1), (2, .int i2)] dd_X9_drain_2.2.2.2.2.2.2.2.2.2.2.2.2.2.2.2.1 rfl rfl (by decide) rfl rfl ?_
        refine xr_goto (tgt := 31) C dd_X9_drain_3.1 rfl ?_
        refine xr_lv (lv' := [(0, .ref g), (1, .int i1), (2, .int i2), (3, .int (s_110.1 + 1))]) [1, 2, 3, 0] rfl ?_
        exact hk_110 (s_110.1 + 1, b_147.2) (Option.some.inj ho_110).symm
      refine y_loop (P := fun (s_147 : Int32 × (Nat → Nat → Int32)) => X p l e (yR 4 (if gti = 0 then 10 else 0) (if gti = 0 then 90 else 0)) s m args below meth c D A H0 5 Q [[(g, .inr (11, [.int gth, .ref gw, .ref gB, .ref gK, .ref gU, .ref gS, .int gbe, .int gwo, .long gta, .ref gn, .int glr, .int glc, .int gti, .int ggo, .ref gR, .int gch, .ref q_66]))], [(gn, .inr (10, [.int gnr, .int gnk, .int gnc, .int gng, .int gns, .ref gna, .ref gnb]))], [(gS, .inl (cy 3, 5, .inr (.inr (.inr (.inr (yad gSd))))))], xg_rows gSd 5 (cy 1) 5 gSG, [(gD, .inl (cy 3, gDn, .inr (.inr (.inr (.inr (yad gDd))))))], xg_rows gDd gDn (cy 1) gDk gDG, [(q_66, .inl (cy 3, x_58.toNatClampNeg, .inr (.inr (.inr (.inr (yad ad_67))))))], xg_rows ad_67 x_58.toNatClampNeg (cy 1) x_62.toNatClampNeg s_147.2] (0 + 10) (0 + 90) [(0, .ref g), (1, .int i1), (2, .int i2), (3, .int s_110.1), (4, .int s_147.1)] 42 []) ?_ _ (0, s_110.2) hb_147
      intro s_147 o_147 ho_147 hk_147 hx_147
      refine xr_iload (n := 44) (j := 4) C dd_X9_drain_1.2.2.2.1 rfl rfl ?_
      refine xr_aload_n (n := 45) (j := 0) C dd_X9_drain_1.2.2.2.2.1 rfl rfl ?_
      obtain ⟨x_148, hx_148, ho_147⟩ := yf_b ho_147
      refine xr_callVp (n := 48) (As := []) (rest := [.int s_147.1]) C (kX9_tileColumns l D cy (g := g) (gth := gth) (gw := gw) (gB := gB) (gK := gK) (gU := gU) (gS := gS) (gbe := gbe) (gwo := gwo) (gta := gta) (gn := gn) (glr := glr) (glc := glc) (gti := gti) (ggo := ggo) (gR := gR) (gch := gch) (gD := q_66) (gnr := gnr) (gnk := gnk) (gnc := gnc) (gng := gng) (gns := gns) (gna := gna) (gnb := gnb) hx_148) mX9_tileColumns u_1447 u_1449 u_41 0 rfl rfl 8 [0, 1] [2, 3, 4, 5, 6, 7] rfl (by decide +kernel) rfl rfl rfl rfl (Nat.le_of_ble_eq_true rfl) (Nat.le_of_ble_eq_true rfl) (Nat.le_of_ble_eq_true rfl) (by show 0 + 10 + 0 ≤ (if gti = 0 then 10 else 0); rw [if_pos c_1]; decide) (by show 0 + 90 + 0 ≤ (if gti = 0 then 90 else 0); rw [if_pos c_1]; decide) dd_X9_drain_1.2.2.2.2.2.1 rfl (fun _ _ hp => hp.2) (fun v_149 hp_151 => ?_)
      obtain ⟨rfl, -⟩ := hp_151
      refine xr_st (st' := [.int x_148, .int s_147.1]) rfl ?_
      refine xr_icmp_ge (tgt := 93) (n := 51) C dd_X9_drain_1.2.2.2.2.2.2.1 rfl rfl (fun c_152 => ?_) (fun c_152 => ?_)
      · replace ho_147 := yf_t c_152 ho_147
        refine xr_lv (lv' := [(0, .ref g), (1, .int i1), (2, .int i2), (3, .int s_110.1)]) [0, 1, 2, 3] rfl ?_
        have e_153 := hx_147 _ (Option.some.inj ho_147).symm
        subst e_153
        exact K_147
      · replace ho_147 := yf_f c_152 ho_147
        refine xr_aload_n (n := 52) (j := 0) C dd_X9_drain_1.2.2.2.2.2.2.2.1 rfl rfl ?_
        refine xr_get (n := 55) C 0 rfl rfl 16 (by decide) in_X9 u_1253 rfl (v := .ref q_66) rfl dd_X9_drain_1.2.2.2.2.2.2.2.2.1 rfl ?_
        refine xr_iload_n (n := 56) (j := 1) C dd_X9_drain_1.2.2.2.2.2.2.2.2.2.1 rfl rfl ?_
        refine xr_iload_n (n := 57) (j := 3) C dd_X9_drain_1.2.2.2.2.2.2.2.2.2.2.1 rfl rfl ?_
        refine xr_iadd (n := 58) C dd_X9_drain_1.2.2.2.2.2.2.2.2.2.2.2.1 rfl ?_
        obtain ⟨g_154, ho_147⟩ := yf_g ho_147
        refine xr_aald (n := 59) C 6 0 rfl 3 rfl rfl g_154 rfl dd_X9_drain_1.2.2.2.2.2.2.2.2.2.2.2.2.1 rfl ?_
        refine xr_iload_n (n := 60) (j := 2) C dd_X9_drain_1.2.2.2.2.2.2.2.2.2.2.2.2.2.1 rfl rfl ?_
        refine xr_iload (n := 62) (j := 4) C dd_X9_drain_1.2.2.2.2.2.2.2.2.2.2.2.2.2.2.1 rfl rfl ?_
        refine xr_iadd (n := 63) C dd_X9_drain_1.2.2.2.2.2.2.2.2.2.2.2.2.2.2.2.1 rfl ?_
        refine xr_aload_n (n := 64) (j := 0) C dd_X9_drain_2.1 rfl rfl ?_
        refine xr_get (n := 67) C 0 rfl rfl 5 (by decide) in_X9 u_1242 rfl (v := .ref gS) rfl dd_X9_drain_2.2.1 rfl ?_
        refine xr_aload_n (n := 68) (j := 0) C dd_X9_drain_2.2.2.1 rfl rfl ?_
        refine xr_get (n := 71) C 0 rfl rfl 10 (by decide) in_X9 u_1247 rfl (v := .int glr) rfl dd_X9_drain_2.2.2.2.1 rfl ?_
        refine xr_iload_n (n := 72) (j := 3) C dd_X9_drain_2.2.2.2.2.1 rfl rfl ?_
        obtain ⟨x_155, hx_155, ho_147⟩ := yf_b ho_147
        refine xr_callSp (n := 75) (As := [.int glr, .int s_110.1]) (rest := [.ref gS, .int (i2 + s_147.1), .ref (ad_67 (i1 + s_110.1).toNatClampNeg)]) C (kX9_nth l D cy (i1 := glr) (i2 := s_110.1) hx_155) mX9_nth u_1455 u_1456 8 [] [0, 1, 2, 3, 4, 5, 6, 7] rfl (by decide +kernel) rfl rfl rfl rfl (Nat.le_of_ble_eq_true rfl) (Nat.le_of_ble_eq_true rfl) (Nat.le_of_ble_eq_true rfl) (by show 0 + 10 + 0 ≤ (if gti = 0 then 10 else 0); rw [if_pos c_1]; decide) (by show 0 + 90 + 0 ≤ (if gti = 0 then 90 else 0); rw [if_pos c_1]; decide) dd_X9_drain_2.2.2.2.2.2.1 rfl (fun _ _ hp => hp.2) (fun v_156 hp_158 => ?_)
        obtain ⟨rfl, -⟩ := hp_158
        refine xr_st (st' := [.int x_155, .ref gS, .int (i2 + s_147.1), .ref (ad_67 (i1 + s_110.1).toNatClampNeg)]) rfl ?_
        obtain ⟨g_159, ho_147⟩ := yf_g ho_147
        refine xr_aald (n := 76) C 2 0 rfl 3 rfl rfl g_159 rfl dd_X9_drain_2.2.2.2.2.2.2.1 rfl ?_
        refine xr_aload_n (n := 77) (j := 0) C dd_X9_drain_2.2.2.2.2.2.2.2.1 rfl rfl ?_
        refine xr_get (n := 80) C 0 rfl rfl 11 (by decide) in_X9 u_1248 rfl (v := .int glc) rfl dd_X9_drain_2.2.2.2.2.2.2.2.2.1 rfl ?_
        refine xr_iload (n := 82) (j := 4) C dd_X9_drain_2.2.2.2.2.2.2.2.2.2.1 rfl rfl ?_
        obtain ⟨x_160, hx_160, ho_147⟩ := yf_b ho_147
        refine xr_callSp (n := 85) (As := [.int glc, .int s_147.1]) (rest := [.ref (gSd x_155.toNatClampNeg), .int (i2 + s_147.1), .ref (ad_67 (i1 + s_110.1).toNatClampNeg)]) C (kX9_nth l D cy (i1 := glc) (i2 := s_147.1) hx_160) mX9_nth u_1455 u_1456 8 [] [0, 1, 2, 3, 4, 5, 6, 7] rfl (by decide +kernel) rfl rfl rfl rfl (Nat.le_of_ble_eq_true rfl) (Nat.le_of_ble_eq_true rfl) (Nat.le_of_ble_eq_true rfl) (by show 0 + 10 + 0 ≤ (if gti = 0 then 10 else 0); rw [if_pos c_1]; decide) (by show 0 + 90 + 0 ≤ (if gti = 0 then 90 else 0); rw [if_pos c_1]; decide) dd_X9_drain_2.2.2.2.2.2.2.2.2.2.2.1 rfl (fun _ _ hp => hp.2) (fun v_161 hp_163 => ?_)
        obtain ⟨rfl, -⟩ := hp_163
        refine xr_st (st' := [.int x_160, .ref (gSd x_155.toNatClampNeg), .int (i2 + s_147.1), .ref (ad_67 (i1 + s_110.1).toNatClampNeg)]) rfl ?_
        obtain ⟨g_164, ho_147⟩ := yf_g ho_147
        refine xr_ialdg (n := 86) C 3 rfl x_155.toNatClampNeg (ylt g_159) g_164 dd_X9_drain_2.2.2.2.2.2.2.2.2.2.2.2.1 rfl ?_
        obtain ⟨g_165, ho_147⟩ := yf_g ho_147
        refine xr_iastg (n := 87) C 7 rfl ((i1 + s_110.1).toNatClampNeg) (ylt g_154) g_165 [[(g, .inr (11, [.int gth, .ref gw, .ref gB, .ref gK, .ref gU, .ref gS, .int gbe, .int gwo, .long gta, .ref gn, .int glr, .int glc, .int gti, .int ggo, .ref gR, .int gch, .ref q_66]))], [(gn, .inr (10, [.int gnr, .int gnk, .int gnc, .int gng, .int gns, .ref gna, .ref gnb]))], [(gS, .inl (cy 3, 5, .inr (.inr (.inr (.inr (yad gSd))))))], xg_rows gSd 5 (cy 1) 5 gSG, [(gD, .inl (cy 3, gDn, .inr (.inr (.inr (.inr (yad gDd))))))], xg_rows gDd gDn (cy 1) gDk gDG, [(q_66, .inl (cy 3, x_58.toNatClampNeg, .inr (.inr (.inr (.inr (yad ad_67))))))], xg_rows ad_67 x_58.toNatClampNeg (cy 1) x_62.toNatClampNeg (upg s_147.2 ((i1 + s_110.1).toNatClampNeg) (i2 + s_147.1).toNatClampNeg (gSG x_155.toNatClampNeg x_160.toNatClampNeg))] rfl dd_X9_drain_2.2.2.2.2.2.2.2.2.2.2.2.2.1 rfl ?_
        refine xr_iinc (j := 4) (v := s_147.1 + 1) (n := 90) C [(4, .int (s_147.1 + 1)), (0, .ref g), (1, .int i1), (2, .int i2), (3, .int s_110.1)] dd_X9_drain_2.2.2.2.2.2.2.2.2.2.2.2.2.2.1 rfl rfl (by decide) rfl rfl ?_
        refine xr_goto (tgt := 42) C dd_X9_drain_2.2.2.2.2.2.2.2.2.2.2.2.2.2.2.1 rfl ?_
        refine xr_lv (lv' := [(0, .ref g), (1, .int i1), (2, .int i2), (3, .int s_110.1), (4, .int (s_147.1 + 1))]) [1, 2, 3, 4, 0] rfl ?_
        exact hk_147 (s_147.1 + 1, upg s_147.2 ((i1 + s_110.1).toNatClampNeg) (i2 + s_147.1).toNatClampNeg (gSG x_155.toNatClampNeg x_160.toNatClampNeg)) (Option.some.inj ho_147).symm
theorem dd_X9_one__0 : dk_R cX9_one_ [(0, .aload_n 0, 1), (1, .getfield 137, 3), (4, .invokevirtual 193, 3), (7, .iconst (-1), 1), (8, .ixor, 1), (9, .iconst 1, 1), (10, .aload_n 0, 1), (11, .getfield 137, 3), (14, .getfield 52, 3), (17, .ishl, 1), (18, .iconst 1, 1), (19, .isub, 1), (20, .iand, 1), (21, .istore_n 1, 1), (22, .aload_n 0, 1), (23, .getfield 155, 3)] := dk_use _ _ (by decide +kernel)
theorem dd_X9_one__1 : dk_R cX9_one_ [(26, .aload_n 0, 1), (27, .getfield 137, 3), (30, .invokevirtual 113, 3), (33, .aload_n 0, 1), (34, .invokevirtual 158, 3), (37, .invokestatic 110, 3), (40, .idiv, 1), (41, .aload_n 0, 1), (42, .invokevirtual 152, 3), (45, .imul, 1), (46, .istore_n 2, 1), (47, .aload_n 0, 1), (48, .getfield 155, 3), (51, .aload_n 0, 1), (52, .getfield 137, 3), (55, .invokevirtual 113, 3)] := dk_use _ _ (by decide +kernel)
theorem dd_X9_one__2 : dk_R cX9_one_ [(58, .aload_n 0, 1), (59, .invokevirtual 158, 3), (62, .invokestatic 110, 3), (65, .irem, 1), (66, .aload_n 0, 1), (67, .invokevirtual 158, 3), (70, .imul, 1), (71, .istore_n 3, 1), (72, .iconst 0, 1), (73, .istore 4, 2), (75, .iload 4, 2), (77, .aload_n 0, 1), (78, .invokevirtual 161, 3), (81, .if_icmp .ge 171, 3), (84, .iconst 0, 1), (85, .istore 5, 2)] := dk_use _ _ (by decide +kernel)
theorem dd_X9_one__3 : dk_R cX9_one_ [(87, .iload 5, 2), (89, .aload_n 0, 1), (90, .invokevirtual 164, 3), (93, .if_icmp .ge 153, 3), (96, .aload_n 0, 1), (97, .aload_n 0, 1), (98, .getfield 167, 3), (101, .iload 4, 2), (103, .iload 5, 2), (105, .invokevirtual 196, 3), (108, .istore 6, 2), (110, .iload 6, 2), (112, .iconst (-1), 1), (113, .if_icmp .ne 6, 3), (116, .goto 124, 3), (119, .iload_n 1, 1)] := dk_use _ _ (by decide +kernel)
theorem dd_X9_one__4 : dk_R cX9_one_ [(120, .iload 6, 2), (122, .invokestatic 199, 3), (125, .istore 7, 2), (127, .aload_n 0, 1), (128, .getfield 146, 3), (131, .iload 4, 2), (133, .invokestatic 199, 3), (136, .istore 8, 2), (138, .aload_n 0, 1), (139, .getfield 149, 3), (142, .iload 5, 2), (144, .invokestatic 199, 3), (147, .istore 9, 2), (149, .aload_n 0, 1), (150, .getfield 35, 3), (153, .iload 8, 2)] := dk_use _ _ (by decide +kernel)
theorem dd_X9_one__5 : dk_R cX9_one_ [(155, .aaload, 1), (156, .iload 9, 2), (158, .aload_n 0, 1), (159, .getfield 137, 3), (162, .aload_n 0, 1), (163, .getfield 35, 3), (166, .iload 8, 2), (168, .aaload, 1), (169, .iload 9, 2), (171, .iaload, 1), (172, .aload_n 0, 1), (173, .getfield 137, 3), (176, .iload_n 2, 1), (177, .iload 4, 2), (179, .iadd, 1), (180, .iload 7, 2)] := dk_use _ _ (by decide +kernel)
theorem dd_X9_one__6 : dk_R cX9_one_ [(182, .invokevirtual 202, 3), (185, .aload_n 0, 1), (186, .getfield 137, 3), (189, .iload 7, 2), (191, .iload_n 3, 1), (192, .iload 5, 2), (194, .iadd, 1), (195, .invokevirtual 204, 3), (198, .invokevirtual 206, 3), (201, .aload_n 0, 1), (202, .getfield 24, 3), (205, .iload 8, 2), (207, .aaload, 1), (208, .iload 9, 2), (210, .baload, 1), (211, .invokestatic 71, 3)] := dk_use _ _ (by decide +kernel)
theorem dd_X9_one__7 : dk_R cX9_one_ [(214, .iadd, 1), (215, .iastore, 1), (216, .aload_n 0, 1), (217, .getfield 32, 3), (220, .iload 8, 2), (222, .aaload, 1), (223, .iload 9, 2), (225, .dup2, 1), (226, .iaload, 1), (227, .iconst 1, 1), (228, .iadd, 1), (229, .iastore, 1), (230, .aload_n 0, 1), (231, .dup, 1), (232, .getfield 209, 3), (235, .lconst 1, 1)] := dk_use _ _ (by decide +kernel)
theorem dd_X9_one__8 : dk_R cX9_one_ [(236, .ladd, 1), (237, .putfield 209, 3), (240, .iinc 5 1, 3), (243, .goto (-156), 3), (246, .iinc 4 1, 3), (249, .goto (-174), 3), (252, .aload_n 0, 1), (253, .dup, 1), (254, .getfield 167, 3), (257, .iconst 1, 1), (258, .iadd, 1), (259, .putfield 167, 3), (262, .aload_n 0, 1), (263, .dup, 1), (264, .getfield 213, 3), (267, .iconst 1, 1)] := dk_use _ _ (by decide +kernel)
theorem dd_X9_one__9 : dk_R cX9_one_ [(268, .iadd, 1), (269, .putfield 213, 3), (272, .aload_n 0, 1), (273, .getfield 167, 3), (276, .aload_n 0, 1), (277, .invokevirtual 216, 3), (280, .if_icmp .ne 9, 3), (283, .aload_n 0, 1), (284, .iload_n 2, 1), (285, .iload_n 3, 1), (286, .invokevirtual 219, 3), (289, .return_, 1)] := dk_use _ _ (by decide +kernel)
def fX9_one_ (gbe : Int32) (gta : Int64) (glr : Int32) (glc : Int32) (gti : Int32) (ggo : Int32) (gnr : Int32) (gnk : Int32) (gnc : Int32) (gng : Int32) (gns : Int32) (gnan : Nat) (gnak : Nat) (gnaG : Nat → Nat → Int32) (gnbn : Nat) (gnbk : Nat) (gnbG : Nat → Nat → Int32) (gBG : Nat → Nat → Int32) (gUG : Nat → Nat → Int32) (gSG : Nat → Nat → Int32) (gDn : Nat) (gDk : Nat) (gDG : Nat → Nat → Int32) : Option ((Int32 × Int64 × Int32 × Int32 × (Nat → Nat → Int32) × (Nat → Nat → Int32) × Nat × Nat × (Nat → Nat → Int32)) ⊕ (Int32 × Int64 × Int32 × Int32 × Int32 × (Nat → Nat → Int32) × (Nat → Nat → Int32) × Nat × Nat × (Nat → Nat → Int32))) := ((fX8_skipped gnk gng gnan gnak gnaG gnbn gnbk gnbG).bind fun x_1 => (ylet ((x_1 ^^^ (-1)) &&& (((1 : Int32) <<< (gnk &&& 31)) - 1) : Int32) fun y_5 => ((fX8_columns gnc gns).bind fun x_6 => ((fX9_w glc).bind fun x_10 => ((fX9_tiles x_6 x_10).bind fun x_14 => (if ¬ x_14 = 0 then ((fX9_h glr).bind fun x_19 => ((fX8_columns gnc gns).bind fun x_23 => ((fX9_w glc).bind fun x_27 => ((fX9_tiles x_23 x_27).bind fun x_31 => (if ¬ x_31 = 0 then ((fX9_w glc).bind fun x_36 => ((wl (S := Int32 × Int64 × (Nat → Nat → Int32) × (Nat → Nat → Int32)) (B := Int32 × Int64 × (Nat → Nat → Int32) × (Nat → Nat → Int32)) (fun s_40 => ((fX9_tileRows glr glc gti gnr gnc gns).bind fun x_55 => (if x_55 ≤ s_40.1 then some (.inr (s_40.1, s_40.2.1, s_40.2.2.1, s_40.2.2.2)) else ((wl (S := Int32 × Int64 × (Nat → Nat → Int32) × (Nat → Nat → Int32)) (B := Int32 × Int64 × (Nat → Nat → Int32) × (Nat → Nat → Int32)) (fun s_61 => ((fX9_tileColumns glc gti gnc gns).bind fun x_62 => (if x_62 ≤ s_61.1 then some (.inr (s_61.1, s_61.2.1, s_61.2.2.1, s_61.2.2.2)) else ((fX9_stepTaken gnk gng gnan gnak gnaG gnbn gnbk gnbG ggo s_40.1 s_61.1).bind fun x_68 => (if x_68 = (-1) then some (.inl (s_61.1 + 1, s_61.2.1, s_61.2.2.1, s_61.2.2.2)) else ((fX9_nth y_5 x_68).bind fun x_73 => ((fX9_nth glr s_40.1).bind fun x_77 => ((fX9_nth glc s_61.1).bind fun x_81 => (if ¬ (x_77 < 0 ∨ 5 ≤ x_77.toNatClampNeg) then (if ¬ (x_77 < 0 ∨ 5 ≤ x_77.toNatClampNeg) then (if ¬ (x_81 < 0 ∨ 5 ≤ x_81.toNatClampNeg) then ((fX8_a gnr gnan gnak gnaG (((gti / x_14) * x_19) + s_40.1) x_73).bind fun x_88 => ((fX8_b gnc gnbn gnbk gnbG x_73 (((gti - gti / x_31 * x_31) * x_36) + s_61.1)).bind fun x_92 => ((fX8_with gng (s_61.2.2.2 x_77.toNatClampNeg x_81.toNatClampNeg) x_88 x_92).bind fun x_96 => (if ¬ (x_77 < 0 ∨ 5 ≤ x_77.toNatClampNeg) then (if ¬ (x_81 < 0 ∨ 5 ≤ x_81.toNatClampNeg) then ((fX9_one (gBG x_77.toNatClampNeg x_81.toNatClampNeg)).bind fun x_102 => (if ¬ (x_81 < 0 ∨ 5 ≤ x_81.toNatClampNeg) then (if ¬ (x_77 < 0 ∨ 5 ≤ x_77.toNatClampNeg) then (if ¬ (x_81 < 0 ∨ 5 ≤ x_81.toNatClampNeg) then (if ¬ (x_81 < 0 ∨ 5 ≤ x_81.toNatClampNeg) then some (.inl (s_61.1 + 1, s_61.2.1 + 1, upg s_61.2.2.1 x_77.toNatClampNeg x_81.toNatClampNeg ((s_61.2.2.1 x_77.toNatClampNeg x_81.toNatClampNeg) + 1), upg s_61.2.2.2 x_77.toNatClampNeg x_81.toNatClampNeg (x_96 + x_102))) else none) else none) else none) else none)) else none) else none)))) else none) else none) else none))))))))) yFuel (0, s_40.2.1, s_40.2.2.1, s_40.2.2.2)).bind fun b_61 => some (.inl (s_40.1 + 1, b_61.2.1, b_61.2.2.1, b_61.2.2.2)))))) yFuel (0, gta, gUG, gSG)).bind fun b_40 => ((fX9_tileBeats glr glc gti gnr gnk gnc gng gns gnan gnak gnaG gnbn gnbk gnbG).bind fun x_41 => (if (ggo + 1) = x_41 then ((fX9_drain glr glc gti gnr gnc gng gns b_40.2.2.2 gDn gDk gDG ((gti / x_14) * x_19) ((gti - gti / x_31 * x_31) * x_36)).bind fun x_46 => ybr x_46 (fun w_54 => some (.inl (gbe + 1, b_40.2.1, w_54.1, w_54.2.1, b_40.2.2.1, w_54.2.2.1, w_54.2.2.2.1, w_54.2.2.2.2.1, w_54.2.2.2.2.2))) (fun w_54 => some (.inr (gbe + 1, b_40.2.1, w_54.1, ggo + 1, w_54.2.1, b_40.2.2.1, b_40.2.2.2, w_54.2.2.1, w_54.2.2.2.1, w_54.2.2.2.2)))) else some (.inl (gbe + 1, b_40.2.1, gti, ggo + 1, b_40.2.2.1, b_40.2.2.2, gDn, gDk, gDG)))))) else none))))) else none))))))
abbrev hX9_one_ : Cond := .code yX9_one_ cX9_one_ 10 none
theorem mX9_one_ : yM yX9_one_ hX9_one_ 0 := ⟨u_1441, u_64, by decide +kernel, by decide +kernel, by decide +kernel⟩
set_option maxHeartbeats 4000000 in
set_option maxRecDepth 100000 in
theorem kX9_one_ (l : Launch) (D : va_G) (cy : Nat → ClassId) (g : Nat) (gth : Int32) (gw : Nat) (gB : Nat) (gK : Nat) (gU : Nat) (gS : Nat) (gbe : Int32) (gwo : Int32) (gta : Int64) (gn : Nat) (glr : Int32) (glc : Int32) (gti : Int32) (ggo : Int32) (gR : Nat) (gch : Int32) (gD : Nat) (gnr : Int32) (gnk : Int32) (gnc : Int32) (gng : Int32) (gns : Int32) (gna : Nat) (gnb : Nat) (gnad : Nat → Nat) (gnan : Nat) (gnak : Nat) (gnaG : Nat → Nat → Int32) (gnbd : Nat → Nat) (gnbn : Nat) (gnbk : Nat) (gnbG : Nat → Nat → Int32) (gBd : Nat → Nat) (gBG : Nat → Nat → Int32) (gUd : Nat → Nat) (gUG : Nat → Nat → Int32) (gSd : Nat → Nat) (gSG : Nat → Nat → Int32) (gDd : Nat → Nat) (gDn : Nat) (gDk : Nat) (gDG : Nat → Nat → Int32) {res : (Int32 × Int64 × Int32 × Int32 × (Nat → Nat → Int32) × (Nat → Nat → Int32) × Nat × Nat × (Nat → Nat → Int32)) ⊕ (Int32 × Int64 × Int32 × Int32 × Int32 × (Nat → Nat → Int32) × (Nat → Nat → Int32) × Nat × Nat × (Nat → Nat → Int32))} (hR : fX9_one_ gbe gta glr glc gti ggo gnr gnk gnc gng gns gnan gnak gnaG gnbn gnbk gnbG gBG gUG gSG gDn gDk gDG = some res) : YM l D cy yX9_one_ hX9_one_ 5 (if gti = 0 then 10 else 0) (if gti = 0 then 90 else 0) [.ref g] [[(g, .inr (11, [.int gth, .ref gw, .ref gB, .ref gK, .ref gU, .ref gS, .int gbe, .int gwo, .long gta, .ref gn, .int glr, .int glc, .int gti, .int ggo, .ref gR, .int gch, .ref gD]))], [(gn, .inr (10, [.int gnr, .int gnk, .int gnc, .int gng, .int gns, .ref gna, .ref gnb]))], [(gna, .inl (cy 3, gnan, .inr (.inr (.inr (.inr (yad gnad))))))], xg_rows gnad gnan (cy 1) gnak gnaG, [(gnb, .inl (cy 3, gnbn, .inr (.inr (.inr (.inr (yad gnbd))))))], xg_rows gnbd gnbn (cy 1) gnbk gnbG, [(gB, .inl (cy 4, 5, .inr (.inr (.inr (.inr (yad gBd))))))], xg_rows gBd 5 (cy 2) 5 gBG, [(gU, .inl (cy 3, 5, .inr (.inr (.inr (.inr (yad gUd))))))], xg_rows gUd 5 (cy 1) 5 gUG, [(gS, .inl (cy 3, 5, .inr (.inr (.inr (.inr (yad gSd))))))], xg_rows gSd 5 (cy 1) 5 gSG, [(gD, .inl (cy 3, gDn, .inr (.inr (.inr (.inr (yad gDd))))))], xg_rows gDd gDn (cy 1) gDk gDG] (fun v u => (∃ r, res = .inl r ∧ ∃ gD : Nat, ∃ gDd : Nat → Nat, v = none ∧ u = [[(g, .inr (11, [.int gth, .ref gw, .ref gB, .ref gK, .ref gU, .ref gS, .int r.1, .int gwo, .long r.2.1, .ref gn, .int glr, .int glc, .int r.2.2.1, .int r.2.2.2.1, .ref gR, .int gch, .ref gD]))], [(gn, .inr (10, [.int gnr, .int gnk, .int gnc, .int gng, .int gns, .ref gna, .ref gnb]))], [(gna, .inl (cy 3, gnan, .inr (.inr (.inr (.inr (yad gnad))))))], xg_rows gnad gnan (cy 1) gnak gnaG, [(gnb, .inl (cy 3, gnbn, .inr (.inr (.inr (.inr (yad gnbd))))))], xg_rows gnbd gnbn (cy 1) gnbk gnbG, [(gB, .inl (cy 4, 5, .inr (.inr (.inr (.inr (yad gBd))))))], xg_rows gBd 5 (cy 2) 5 gBG, [(gU, .inl (cy 3, 5, .inr (.inr (.inr (.inr (yad gUd))))))], xg_rows gUd 5 (cy 1) 5 r.2.2.2.2.1, [(gS, .inl (cy 3, 5, .inr (.inr (.inr (.inr (yad gSd))))))], xg_rows gSd 5 (cy 1) 5 r.2.2.2.2.2.1, [(gD, .inl (cy 3, r.2.2.2.2.2.2.1, .inr (.inr (.inr (.inr (yad gDd))))))], xg_rows gDd r.2.2.2.2.2.2.1 (cy 1) r.2.2.2.2.2.2.2.1 r.2.2.2.2.2.2.2.2]) ∨ (∃ r, res = .inr r ∧ ∃ gD : Nat, ∃ gDd : Nat → Nat, v = none ∧ u = [[(g, .inr (11, [.int gth, .ref gw, .ref gB, .ref gK, .ref gU, .ref gS, .int r.1, .int gwo, .long r.2.1, .null, .int glr, .int glc, .int r.2.2.1, .int r.2.2.2.1, .ref gD, .int r.2.2.2.2.1, .ref gD]))], [(gB, .inl (cy 4, 5, .inr (.inr (.inr (.inr (yad gBd))))))], xg_rows gBd 5 (cy 2) 5 gBG, [(gU, .inl (cy 3, 5, .inr (.inr (.inr (.inr (yad gUd))))))], xg_rows gUd 5 (cy 1) 5 r.2.2.2.2.2.1, [(gS, .inl (cy 3, 5, .inr (.inr (.inr (.inr (yad gSd))))))], xg_rows gSd 5 (cy 1) 5 r.2.2.2.2.2.2.1, [(gD, .inl (cy 3, r.2.2.2.2.2.2.2.1, .inr (.inr (.inr (.inr (yad gDd))))))], xg_rows gDd r.2.2.2.2.2.2.2.1 (cy 1) r.2.2.2.2.2.2.2.2.1 r.2.2.2.2.2.2.2.2.2])) := by
  unfold fX9_one_ at hR
  refine YM.ofV (cc := cX9_one_) (maxL := 10) (ret := none) (by decide +kernel) rfl (Nat.le_of_ble_eq_true rfl) [(0, .ref g)] rfl rfl (fun p e s m args below meth c A H0 Q C hnm ret => ?_)
  refine xr_aload_n (n := 1) (j := 0) C dd_X9_one__0.1 rfl rfl ?_
  refine xr_get (n := 4) C 0 rfl rfl 9 (by decide) in_X9 u_1246 rfl (v := .ref gn) rfl dd_X9_one__0.2.1 rfl ?_
  obtain ⟨x_1, hx_1, hR⟩ := yf_b hR
  refine xr_callVp (n := 7) (As := []) (rest := []) C (kX8_skipped l D cy (w := gn) (wr := gnr) (wk := gnk) (wc := gnc) (wg := gng) (ws := gns) (wa := gna) (wb := gnb) (wad := gnad) (wan := gnan) (wak := gnak) (waG := gnaG) (wbd := gnbd) (wbn := gnbn) (wbk := gnbk) (wbG := gnbG) hx_1) mX8_skipped u_1442 u_1364 u_1365 1 rfl rfl 14 [1, 2, 3, 4, 5] [0, 6, 7, 8, 9, 10, 11, 12, 13] rfl (by decide +kernel) rfl rfl rfl rfl (Nat.le_of_ble_eq_true rfl) (Nat.le_of_ble_eq_true rfl) (Nat.le_of_ble_eq_true rfl) (by show 0 + 0 ≤ (if gti = 0 then 10 else 0); omega) (by show 0 + 0 ≤ (if gti = 0 then 90 else 0); omega) dd_X9_one__0.2.2.1 rfl (fun _ _ hp => hp.2) (fun v_2 hp_4 => ?_)
  obtain ⟨rfl, -⟩ := hp_4
  refine xr_st (st' := [.int x_1]) rfl ?_
  refine xr_iconst (n := 8) (v := -1) C dd_X9_one__0.2.2.2.1 rfl rfl ?_
  refine xr_ixor (n := 9) C dd_X9_one__0.2.2.2.2.1 rfl ?_
  refine xr_iconst (n := 10) (v := 1) C dd_X9_one__0.2.2.2.2.2.1 rfl rfl ?_
  refine xr_aload_n (n := 11) (j := 0) C dd_X9_one__0.2.2.2.2.2.2.1 rfl rfl ?_
  refine xr_get (n := 14) C 0 rfl rfl 9 (by decide) in_X9 u_1246 rfl (v := .ref gn) rfl dd_X9_one__0.2.2.2.2.2.2.2.1 rfl ?_
  refine xr_get (n := 17) C 1 rfl rfl 1 (by decide) in_X8 u_1202 rfl (v := .int gnk) rfl dd_X9_one__0.2.2.2.2.2.2.2.2.1 rfl ?_
  refine xr_ishl (n := 18) C dd_X9_one__0.2.2.2.2.2.2.2.2.2.1 rfl ?_
  refine xr_iconst (n := 19) (v := 1) C dd_X9_one__0.2.2.2.2.2.2.2.2.2.2.1 rfl rfl ?_
  refine xr_isub (n := 20) C dd_X9_one__0.2.2.2.2.2.2.2.2.2.2.2.1 rfl ?_
  refine xr_iand (n := 21) C dd_X9_one__0.2.2.2.2.2.2.2.2.2.2.2.2.1 rfl ?_
  obtain ⟨y_5, ey_5, hR⟩ := yf_l hR
  refine xr_topI ey_5 ?_
  refine xr_istore_n (n := 22) C [(1, .int y_5), (0, .ref g)] dd_X9_one__0.2.2.2.2.2.2.2.2.2.2.2.2.2.1 (by decide) rfl rfl ?_
  refine xr_aload_n (n := 23) (j := 1) C dd_X9_one__0.2.2.2.2.2.2.2.2.2.2.2.2.2.2.1 rfl rfl ?_
  refine xr_get (n := 26) C 0 rfl rfl 12 (by decide) in_X9 u_1249 rfl (v := .int gti) rfl dd_X9_one__0.2.2.2.2.2.2.2.2.2.2.2.2.2.2.2.1 rfl ?_
  refine xr_aload_n (n := 27) (j := 1) C dd_X9_one__1.1 rfl rfl ?_
  refine xr_get (n := 30) C 0 rfl rfl 9 (by decide) in_X9 u_1246 rfl (v := .ref gn) rfl dd_X9_one__1.2.1 rfl ?_
  obtain ⟨x_6, hx_6, hR⟩ := yf_b hR
  refine xr_callVp (n := 33) (As := []) (rest := [.int gti]) C (kX8_columns l D cy (w := gn) (wr := gnr) (wk := gnk) (wc := gnc) (wg := gng) (ws := gns) (wa := gna) (wb := gnb) hx_6) mX8_columns u_1391 u_1392 u_1393 1 rfl rfl 14 [1] [0, 2, 3, 4, 5, 6, 7, 8, 9, 10, 11, 12, 13] rfl (by decide +kernel) rfl rfl rfl rfl (Nat.le_of_ble_eq_true rfl) (Nat.le_of_ble_eq_true rfl) (Nat.le_of_ble_eq_true rfl) (by show 0 + 0 ≤ (if gti = 0 then 10 else 0); omega) (by show 0 + 0 ≤ (if gti = 0 then 90 else 0); omega) dd_X9_one__1.2.2.1 rfl (fun _ _ hp => hp.2) (fun v_7 hp_9 => ?_)
  obtain ⟨rfl, -⟩ := hp_9
  refine xr_st (st' := [.int x_6, .int gti]) rfl ?_
  refine xr_aload_n (n := 34) (j := 1) C dd_X9_one__1.2.2.2.1 rfl rfl ?_
  obtain ⟨x_10, hx_10, hR⟩ := yf_b hR
  refine xr_callVp (n := 37) (As := []) (rest := [.int x_6, .int gti]) C (kX9_w l D cy (g := g) (gth := gth) (gw := gw) (gB := gB) (gK := gK) (gU := gU) (gS := gS) (gbe := gbe) (gwo := gwo) (gta := gta) (gn := gn) (glr := glr) (glc := glc) (gti := gti) (ggo := ggo) (gR := gR) (gch := gch) (gD := gD) hx_10) mX9_w u_1426 u_1428 u_37 0 rfl rfl 14 [0] [1, 2, 3, 4, 5, 6, 7, 8, 9, 10, 11, 12, 13] rfl (by decide +kernel) rfl rfl rfl rfl (Nat.le_of_ble_eq_true rfl) (Nat.le_of_ble_eq_true rfl) (Nat.le_of_ble_eq_true rfl) (by show 0 + 0 ≤ (if gti = 0 then 10 else 0); omega) (by show 0 + 0 ≤ (if gti = 0 then 90 else 0); omega) dd_X9_one__1.2.2.2.2.1 rfl (fun _ _ hp => hp.2) (fun v_11 hp_13 => ?_)
  obtain ⟨rfl, -⟩ := hp_13
  refine xr_st (st' := [.int x_10, .int x_6, .int gti]) rfl ?_
  obtain ⟨x_14, hx_14, hR⟩ := yf_b hR
  refine xr_callSp (n := 40) (As := [.int x_6, .int x_10]) (rest := [.int gti]) C (kX9_tiles l D cy (i1 := x_6) (i2 := x_10) hx_14) mX9_tiles u_1388 u_1389 14 [] [0, 1, 2, 3, 4, 5, 6, 7, 8, 9, 10, 11, 12, 13] rfl (by decide +kernel) rfl rfl rfl rfl (Nat.le_of_ble_eq_true rfl) (Nat.le_of_ble_eq_true rfl) (Nat.le_of_ble_eq_true rfl) (by show 0 + 0 ≤ (if gti = 0 then 10 else 0); omega) (by show 0 + 0 ≤ (if gti = 0 then 90 else 0); omega) dd_X9_one__1.2.2.2.2.2.1 rfl (fun _ _ hp => hp.2) (fun v_15 hp_17 => ?_)
  obtain ⟨rfl, -⟩ := hp_17
  refine xr_st (st' := [.int x_14, .int gti]) rfl ?_
  obtain ⟨g_18, hR⟩ := yf_g hR
  refine xr_idiv (n := 41) C dd_X9_one__1.2.2.2.2.2.2.1 g_18 rfl ?_
  refine xr_aload_n (n := 42) (j := 1) C dd_X9_one__1.2.2.2.2.2.2.2.1 rfl rfl ?_
  obtain ⟨x_19, hx_19, hR⟩ := yf_b hR
  refine xr_callVp (n := 45) (As := []) (rest := [.int (gti / x_14)]) C (kX9_h l D cy (g := g) (gth := gth) (gw := gw) (gB := gB) (gK := gK) (gU := gU) (gS := gS) (gbe := gbe) (gwo := gwo) (gta := gta) (gn := gn) (glr := glr) (glc := glc) (gti := gti) (ggo := ggo) (gR := gR) (gch := gch) (gD := gD) hx_19) mX9_h u_1430 u_1432 u_38 0 rfl rfl 14 [0] [1, 2, 3, 4, 5, 6, 7, 8, 9, 10, 11, 12, 13] rfl (by decide +kernel) rfl rfl rfl rfl (Nat.le_of_ble_eq_true rfl) (Nat.le_of_ble_eq_true rfl) (Nat.le_of_ble_eq_true rfl) (by show 0 + 0 ≤ (if gti = 0 then 10 else 0); omega) (by show 0 + 0 ≤ (if gti = 0 then 90 else 0); omega) dd_X9_one__1.2.2.2.2.2.2.2.2.1 rfl (fun _ _ hp => hp.2) (fun v_20 hp_22 => ?_)
  obtain ⟨rfl, -⟩ := hp_22
  refine xr_st (st' := [.int x_19, .int (gti / x_14)]) rfl ?_
  refine xr_imul (n := 46) C dd_X9_one__1.2.2.2.2.2.2.2.2.2.1 rfl ?_
  refine xr_istore_n (n := 47) C [(2, .int ((gti / x_14) * x_19)), (1, .int y_5), (0, .ref g)] dd_X9_one__1.2.2.2.2.2.2.2.2.2.2.1 (by decide) rfl rfl ?_
  refine xr_aload_n (n := 48) (j := 2) C dd_X9_one__1.2.2.2.2.2.2.2.2.2.2.2.1 rfl rfl ?_
  refine xr_get (n := 51) C 0 rfl rfl 12 (by decide) in_X9 u_1249 rfl (v := .int gti) rfl dd_X9_one__1.2.2.2.2.2.2.2.2.2.2.2.2.1 rfl ?_
  refine xr_aload_n (n := 52) (j := 2) C dd_X9_one__1.2.2.2.2.2.2.2.2.2.2.2.2.2.1 rfl rfl ?_
  refine xr_get (n := 55) C 0 rfl rfl 9 (by decide) in_X9 u_1246 rfl (v := .ref gn) rfl dd_X9_one__1.2.2.2.2.2.2.2.2.2.2.2.2.2.2.1 rfl ?_
  obtain ⟨x_23, hx_23, hR⟩ := yf_b hR
  refine xr_callVp (n := 58) (As := []) (rest := [.int gti]) C (kX8_columns l D cy (w := gn) (wr := gnr) (wk := gnk) (wc := gnc) (wg := gng) (ws := gns) (wa := gna) (wb := gnb) hx_23) mX8_columns u_1391 u_1392 u_1393 1 rfl rfl 14 [1] [0, 2, 3, 4, 5, 6, 7, 8, 9, 10, 11, 12, 13] rfl (by decide +kernel) rfl rfl rfl rfl (Nat.le_of_ble_eq_true rfl) (Nat.le_of_ble_eq_true rfl) (Nat.le_of_ble_eq_true rfl) (by show 0 + 0 ≤ (if gti = 0 then 10 else 0); omega) (by show 0 + 0 ≤ (if gti = 0 then 90 else 0); omega) dd_X9_one__1.2.2.2.2.2.2.2.2.2.2.2.2.2.2.2.1 rfl (fun _ _ hp => hp.2) (fun v_24 hp_26 => ?_)
  obtain ⟨rfl, -⟩ := hp_26
  refine xr_st (st' := [.int x_23, .int gti]) rfl ?_
  refine xr_aload_n (n := 59) (j := 2) C dd_X9_one__2.1 rfl rfl ?_
  obtain ⟨x_27, hx_27, hR⟩ := yf_b hR
  refine xr_callVp (n := 62) (As := []) (rest := [.int x_23, .int gti]) C (kX9_w l D cy (g := g) (gth := gth) (gw := gw) (gB := gB) (gK := gK) (gU := gU) (gS := gS) (gbe := gbe) (gwo := gwo) (gta := gta) (gn := gn) (glr := glr) (glc := glc) (gti := gti) (ggo := ggo) (gR := gR) (gch := gch) (gD := gD) hx_27) mX9_w u_1426 u_1428 u_37 0 rfl rfl 14 [0] [1, 2, 3, 4, 5, 6, 7, 8, 9, 10, 11, 12, 13] rfl (by decide +kernel) rfl rfl rfl rfl (Nat.le_of_ble_eq_true rfl) (Nat.le_of_ble_eq_true rfl) (Nat.le_of_ble_eq_true rfl) (by show 0 + 0 ≤ (if gti = 0 then 10 else 0); omega) (by show 0 + 0 ≤ (if gti = 0 then 90 else 0); omega) dd_X9_one__2.2.1 rfl (fun _ _ hp => hp.2) (fun v_28 hp_30 => ?_)
  obtain ⟨rfl, -⟩ := hp_30
  refine xr_st (st' := [.int x_27, .int x_23, .int gti]) rfl ?_
  obtain ⟨x_31, hx_31, hR⟩ := yf_b hR
  refine xr_callSp (n := 65) (As := [.int x_23, .int x_27]) (rest := [.int gti]) C (kX9_tiles l D cy (i1 := x_23) (i2 := x_27) hx_31) mX9_tiles u_1388 u_1389 14 [] [0, 1, 2, 3, 4, 5, 6, 7, 8, 9, 10, 11, 12, 13] rfl (by decide +kernel) rfl rfl rfl rfl (Nat.le_of_ble_eq_true rfl) (Nat.le_of_ble_eq_true rfl) (Nat.le_of_ble_eq_true rfl) (by show 0 + 0 ≤ (if gti = 0 then 10 else 0); omega) (by show 0 + 0 ≤ (if gti = 0 then 90 else 0); omega) dd_X9_one__2.2.2.1 rfl (fun _ _ hp => hp.2) (fun v_32 hp_34 => ?_)
  obtain ⟨rfl, -⟩ := hp_34
  refine xr_st (st' := [.int x_31, .int gti]) rfl ?_
  obtain ⟨g_35, hR⟩ := yf_g hR
  refine xr_irem (n := 66) C dd_X9_one__2.2.2.2.1 g_35 rfl ?_
  refine xr_aload_n (n := 67) (j := 2) C dd_X9_one__2.2.2.2.2.1 rfl rfl ?_
  obtain ⟨x_36, hx_36, hR⟩ := yf_b hR
  refine xr_callVp (n := 70) (As := []) (rest := [.int (gti - gti / x_31 * x_31)]) C (kX9_w l D cy (g := g) (gth := gth) (gw := gw) (gB := gB) (gK := gK) (gU := gU) (gS := gS) (gbe := gbe) (gwo := gwo) (gta := gta) (gn := gn) (glr := glr) (glc := glc) (gti := gti) (ggo := ggo) (gR := gR) (gch := gch) (gD := gD) hx_36) mX9_w u_1426 u_1428 u_37 0 rfl rfl 14 [0] [1, 2, 3, 4, 5, 6, 7, 8, 9, 10, 11, 12, 13] rfl (by decide +kernel) rfl rfl rfl rfl (Nat.le_of_ble_eq_true rfl) (Nat.le_of_ble_eq_true rfl) (Nat.le_of_ble_eq_true rfl) (by show 0 + 0 ≤ (if gti = 0 then 10 else 0); omega) (by show 0 + 0 ≤ (if gti = 0 then 90 else 0); omega) dd_X9_one__2.2.2.2.2.2.1 rfl (fun _ _ hp => hp.2) (fun v_37 hp_39 => ?_)
  obtain ⟨rfl, -⟩ := hp_39
  refine xr_st (st' := [.int x_36, .int (gti - gti / x_31 * x_31)]) rfl ?_
  refine xr_imul (n := 71) C dd_X9_one__2.2.2.2.2.2.2.1 rfl ?_
  refine xr_istore_n (n := 72) C [(3, .int ((gti - gti / x_31 * x_31) * x_36)), (2, .int ((gti / x_14) * x_19)), (1, .int y_5), (0, .ref g)] dd_X9_one__2.2.2.2.2.2.2.2.1 (by decide) rfl rfl ?_
  refine xr_iconst (n := 73) (v := 0) C dd_X9_one__2.2.2.2.2.2.2.2.2.1 rfl rfl ?_
  refine xr_istore (n := 75) C [(4, .int 0), (3, .int ((gti - gti / x_31 * x_31) * x_36)), (2, .int ((gti / x_14) * x_19)), (1, .int y_5), (0, .ref g)] dd_X9_one__2.2.2.2.2.2.2.2.2.2.1 (by decide) rfl rfl ?_
  refine xr_lv (lv' := [(0, .ref g), (1, .int y_5), (2, .int ((gti / x_14) * x_19)), (3, .int ((gti - gti / x_31 * x_31) * x_36)), (4, .int 0)]) [4, 3, 2, 1, 0] rfl ?_
  obtain ⟨b_40, hb_40, hR⟩ := yf_b hR
  have K_40 : X p l e (yR 5 (if gti = 0 then 10 else 0) (if gti = 0 then 90 else 0)) s m args below meth c D A H0 10 Q [[(g, .inr (11, [.int gth, .ref gw, .ref gB, .ref gK, .ref gU, .ref gS, .int gbe, .int gwo, .long b_40.2.1, .ref gn, .int glr, .int glc, .int gti, .int ggo, .ref gR, .int gch, .ref gD]))], [(gn, .inr (10, [.int gnr, .int gnk, .int gnc, .int gng, .int gns, .ref gna, .ref gnb]))], [(gna, .inl (cy 3, gnan, .inr (.inr (.inr (.inr (yad gnad))))))], xg_rows gnad gnan (cy 1) gnak gnaG, [(gnb, .inl (cy 3, gnbn, .inr (.inr (.inr (.inr (yad gnbd))))))], xg_rows gnbd gnbn (cy 1) gnbk gnbG, [(gB, .inl (cy 4, 5, .inr (.inr (.inr (.inr (yad gBd))))))], xg_rows gBd 5 (cy 2) 5 gBG, [(gU, .inl (cy 3, 5, .inr (.inr (.inr (.inr (yad gUd))))))], xg_rows gUd 5 (cy 1) 5 b_40.2.2.1, [(gS, .inl (cy 3, 5, .inr (.inr (.inr (.inr (yad gSd))))))], xg_rows gSd 5 (cy 1) 5 b_40.2.2.2, [(gD, .inl (cy 3, gDn, .inr (.inr (.inr (.inr (yad gDd))))))], xg_rows gDd gDn (cy 1) gDk gDG] 0 0 [(0, .ref g), (2, .int ((gti / x_14) * x_19)), (3, .int ((gti - gti / x_31 * x_31) * x_36))] 252 [] := by
    refine xr_aload_n (n := 253) (j := 0) C dd_X9_one__8.2.2.2.2.2.2.1 rfl rfl ?_
    refine xr_dup (n := 254) C dd_X9_one__8.2.2.2.2.2.2.2.1 rfl rfl ?_
    refine xr_get (n := 257) C 0 rfl rfl 13 (by decide) in_X9 u_1250 rfl (v := .int ggo) rfl dd_X9_one__8.2.2.2.2.2.2.2.2.1 rfl ?_
    refine xr_iconst (n := 258) (v := 1) C dd_X9_one__8.2.2.2.2.2.2.2.2.2.1 rfl rfl ?_
    refine xr_iadd (n := 259) C dd_X9_one__8.2.2.2.2.2.2.2.2.2.2.1 rfl ?_
    refine xr_put (n := 262) C 0 rfl rfl 13 (by decide) in_X9 tyX9 tyX9_ok nmX9 u_1250 rfl rfl rfl rfl (Nat.le_of_ble_eq_true rfl) [[(g, .inr (11, [.int gth, .ref gw, .ref gB, .ref gK, .ref gU, .ref gS, .int gbe, .int gwo, .long b_40.2.1, .ref gn, .int glr, .int glc, .int gti, .int (ggo + 1), .ref gR, .int gch, .ref gD]))], [(gn, .inr (10, [.int gnr, .int gnk, .int gnc, .int gng, .int gns, .ref gna, .ref gnb]))], [(gna, .inl (cy 3, gnan, .inr (.inr (.inr (.inr (yad gnad))))))], xg_rows gnad gnan (cy 1) gnak gnaG, [(gnb, .inl (cy 3, gnbn, .inr (.inr (.inr (.inr (yad gnbd))))))], xg_rows gnbd gnbn (cy 1) gnbk gnbG, [(gB, .inl (cy 4, 5, .inr (.inr (.inr (.inr (yad gBd))))))], xg_rows gBd 5 (cy 2) 5 gBG, [(gU, .inl (cy 3, 5, .inr (.inr (.inr (.inr (yad gUd))))))], xg_rows gUd 5 (cy 1) 5 b_40.2.2.1, [(gS, .inl (cy 3, 5, .inr (.inr (.inr (.inr (yad gSd))))))], xg_rows gSd 5 (cy 1) 5 b_40.2.2.2, [(gD, .inl (cy 3, gDn, .inr (.inr (.inr (.inr (yad gDd))))))], xg_rows gDd gDn (cy 1) gDk gDG] rfl rfl dd_X9_one__8.2.2.2.2.2.2.2.2.2.2.2.1 ?_
    refine xr_aload_n (n := 263) (j := 0) C dd_X9_one__8.2.2.2.2.2.2.2.2.2.2.2.2.1 rfl rfl ?_
    refine xr_dup (n := 264) C dd_X9_one__8.2.2.2.2.2.2.2.2.2.2.2.2.2.1 rfl rfl ?_
    refine xr_get (n := 267) C 0 rfl rfl 6 (by decide) in_X9 u_1243 rfl (v := .int gbe) rfl dd_X9_one__8.2.2.2.2.2.2.2.2.2.2.2.2.2.2.1 rfl ?_
    refine xr_iconst (n := 268) (v := 1) C dd_X9_one__8.2.2.2.2.2.2.2.2.2.2.2.2.2.2.2.1 rfl rfl ?_
    refine xr_iadd (n := 269) C dd_X9_one__9.1 rfl ?_
    refine xr_put (n := 272) C 0 rfl rfl 6 (by decide) in_X9 tyX9 tyX9_ok nmX9 u_1243 rfl rfl rfl rfl (Nat.le_of_ble_eq_true rfl) [[(g, .inr (11, [.int gth, .ref gw, .ref gB, .ref gK, .ref gU, .ref gS, .int (gbe + 1), .int gwo, .long b_40.2.1, .ref gn, .int glr, .int glc, .int gti, .int (ggo + 1), .ref gR, .int gch, .ref gD]))], [(gn, .inr (10, [.int gnr, .int gnk, .int gnc, .int gng, .int gns, .ref gna, .ref gnb]))], [(gna, .inl (cy 3, gnan, .inr (.inr (.inr (.inr (yad gnad))))))], xg_rows gnad gnan (cy 1) gnak gnaG, [(gnb, .inl (cy 3, gnbn, .inr (.inr (.inr (.inr (yad gnbd))))))], xg_rows gnbd gnbn (cy 1) gnbk gnbG, [(gB, .inl (cy 4, 5, .inr (.inr (.inr (.inr (yad gBd))))))], xg_rows gBd 5 (cy 2) 5 gBG, [(gU, .inl (cy 3, 5, .inr (.inr (.inr (.inr (yad gUd))))))], xg_rows gUd 5 (cy 1) 5 b_40.2.2.1, [(gS, .inl (cy 3, 5, .inr (.inr (.inr (.inr (yad gSd))))))], xg_rows gSd 5 (cy 1) 5 b_40.2.2.2, [(gD, .inl (cy 3, gDn, .inr (.inr (.inr (.inr (yad gDd))))))], xg_rows gDd gDn (cy 1) gDk gDG] rfl rfl dd_X9_one__9.2.1 ?_
    refine xr_aload_n (n := 273) (j := 0) C dd_X9_one__9.2.2.1 rfl rfl ?_
    refine xr_get (n := 276) C 0 rfl rfl 13 (by decide) in_X9 u_1250 rfl (v := .int (ggo + 1)) rfl dd_X9_one__9.2.2.2.1 rfl ?_
    refine xr_aload_n (n := 277) (j := 0) C dd_X9_one__9.2.2.2.2.1 rfl rfl ?_
    obtain ⟨x_41, hx_41, hR⟩ := yf_b hR
    refine xr_callVp (n := 280) (As := []) (rest := [.int (ggo + 1)]) C (kX9_tileBeats l D cy (g := g) (gth := gth) (gw := gw) (gB := gB) (gK := gK) (gU := gU) (gS := gS) (gbe := gbe + 1) (gwo := gwo) (gta := b_40.2.1) (gn := gn) (glr := glr) (glc := glc) (gti := gti) (ggo := ggo + 1) (gR := gR) (gch := gch) (gD := gD) (gnr := gnr) (gnk := gnk) (gnc := gnc) (gng := gng) (gns := gns) (gna := gna) (gnb := gnb) (gnad := gnad) (gnan := gnan) (gnak := gnak) (gnaG := gnaG) (gnbd := gnbd) (gnbn := gnbn) (gnbk := gnbk) (gnbG := gnbG) hx_41) mX9_tileBeats u_1476 u_1478 u_43 0 rfl rfl 14 [0, 1, 2, 3, 4, 5] [6, 7, 8, 9, 10, 11, 12, 13] rfl (by decide +kernel) rfl rfl rfl rfl (Nat.le_of_ble_eq_true rfl) (Nat.le_of_ble_eq_true rfl) (Nat.le_of_ble_eq_true rfl) (by show 0 + 0 ≤ (if gti = 0 then 10 else 0); omega) (by show 0 + 0 ≤ (if gti = 0 then 90 else 0); omega) dd_X9_one__9.2.2.2.2.2.1 rfl (fun _ _ hp => hp.2) (fun v_42 hp_44 => ?_)
    obtain ⟨rfl, -⟩ := hp_44
    refine xr_st (st' := [.int x_41, .int (ggo + 1)]) rfl ?_
    refine xr_icmp_ne (tgt := 289) (n := 283) C dd_X9_one__9.2.2.2.2.2.2.1 rfl rfl (fun c_45 => ?_) (fun c_45 => ?_)
    · replace hR := yf_f c_45 hR
      obtain rfl := Option.some.inj hR
      exact ret (Or.inl ⟨_, rfl, gD, gDd, rfl, rfl⟩) (by show 0 + 0 ≤ (if gti = 0 then 10 else 0); omega) (by show 0 + 0 ≤ (if gti = 0 then 90 else 0); omega) dd_X9_one__9.2.2.2.2.2.2.2.2.2.2.2.1
    · replace hR := yf_t c_45 hR
      refine xr_aload_n (n := 284) (j := 0) C dd_X9_one__9.2.2.2.2.2.2.2.1 rfl rfl ?_
      refine xr_iload_n (n := 285) (j := 1) C dd_X9_one__9.2.2.2.2.2.2.2.2.1 rfl rfl ?_
      refine xr_iload_n (n := 286) (j := 2) C dd_X9_one__9.2.2.2.2.2.2.2.2.2.1 rfl rfl ?_
      obtain ⟨x_46, hx_46, hR⟩ := yf_b hR
      refine xr_callV (n := 289) (As := [.int ((gti / x_14) * x_19), .int ((gti - gti / x_31 * x_31) * x_36)]) (rest := []) C (kX9_drain l D cy (g := g) (gth := gth) (gw := gw) (gB := gB) (gK := gK) (gU := gU) (gS := gS) (gbe := gbe + 1) (gwo := gwo) (gta := b_40.2.1) (gn := gn) (glr := glr) (glc := glc) (gti := gti) (ggo := ggo + 1) (gR := gR) (gch := gch) (gD := gD) (gnr := gnr) (gnk := gnk) (gnc := gnc) (gng := gng) (gns := gns) (gna := gna) (gnb := gnb) (gSd := gSd) (gSG := b_40.2.2.2) (gDd := gDd) (gDn := gDn) (gDk := gDk) (gDG := gDG) (i1 := (gti / x_14) * x_19) (i2 := (gti - gti / x_31 * x_31) * x_36) hx_46) mX9_drain u_1480 u_1482 u_44 0 rfl rfl 14 [0, 1, 10, 11, 12, 13] [2, 3, 4, 5, 6, 7, 8, 9] rfl (by decide +kernel) rfl rfl rfl rfl (Nat.le_of_ble_eq_true rfl) (Nat.le_of_ble_eq_true rfl) (Nat.le_of_ble_eq_true rfl) (by show 0 + (if gti = 0 then 10 else 0) ≤ (if gti = 0 then 10 else 0); omega) (by show 0 + (if gti = 0 then 90 else 0) ≤ (if gti = 0 then 90 else 0); omega) dd_X9_one__9.2.2.2.2.2.2.2.2.2.2.1 rfl (fun v_47 u_48 hp_49 => ?_)
      rcases hp_49 with ⟨w_54, ew_54, q_50, q_51, rfl, rfl⟩ | ⟨w_54, ew_54, q_52, q_53, rfl, rfl⟩
      · subst ew_54
        replace hR := ybr_l hR
        refine xr_perm C 14 [0, 1, 6, 7, 8, 9, 10, 11, 12, 13, 2, 3, 4, 5] [] [[(g, .inr (11, [.int gth, .ref gw, .ref gB, .ref gK, .ref gU, .ref gS, .int (gbe + 1), .int gwo, .long b_40.2.1, .ref gn, .int glr, .int glc, .int w_54.1, .int w_54.2.1, .ref gR, .int gch, .ref q_50]))], [(gn, .inr (10, [.int gnr, .int gnk, .int gnc, .int gng, .int gns, .ref gna, .ref gnb]))], [(gna, .inl (cy 3, gnan, .inr (.inr (.inr (.inr (yad gnad))))))], xg_rows gnad gnan (cy 1) gnak gnaG, [(gnb, .inl (cy 3, gnbn, .inr (.inr (.inr (.inr (yad gnbd))))))], xg_rows gnbd gnbn (cy 1) gnbk gnbG, [(gB, .inl (cy 4, 5, .inr (.inr (.inr (.inr (yad gBd))))))], xg_rows gBd 5 (cy 2) 5 gBG, [(gU, .inl (cy 3, 5, .inr (.inr (.inr (.inr (yad gUd))))))], xg_rows gUd 5 (cy 1) 5 b_40.2.2.1, [(gS, .inl (cy 3, 5, .inr (.inr (.inr (.inr (yad gSd))))))], xg_rows gSd 5 (cy 1) 5 w_54.2.2.1, [(q_50, .inl (cy 3, w_54.2.2.2.1, .inr (.inr (.inr (.inr (yad q_51))))))], xg_rows q_51 w_54.2.2.2.1 (cy 1) w_54.2.2.2.2.1 w_54.2.2.2.2.2] rfl (by decide +kernel) rfl ?_
        obtain rfl := Option.some.inj hR
        exact ret (Or.inl ⟨_, rfl, q_50, q_51, rfl, rfl⟩) (by show 0 + (if gti = 0 then 10 else 0) + 0 ≤ (if gti = 0 then 10 else 0); omega) (by show 0 + (if gti = 0 then 90 else 0) + 0 ≤ (if gti = 0 then 90 else 0); omega) dd_X9_one__9.2.2.2.2.2.2.2.2.2.2.2.1
      · subst ew_54
        replace hR := ybr_r hR
        refine xr_eq (bs' := [[(g, .inr (11, [.int gth, .ref gw, .ref gB, .ref gK, .ref gU, .ref gS, .int (gbe + 1), .int gwo, .long b_40.2.1, .null, .int glr, .int glc, .int w_54.1, .int (ggo + 1), .ref q_52, .int w_54.2.1, .ref q_52]))], [(gS, .inl (cy 3, 5, .inr (.inr (.inr (.inr (yad gSd))))))], xg_rows gSd 5 (cy 1) 5 b_40.2.2.2, [(q_52, .inl (cy 3, w_54.2.2.1, .inr (.inr (.inr (.inr (yad q_53))))))], xg_rows q_53 w_54.2.2.1 (cy 1) w_54.2.2.2.1 w_54.2.2.2.2, [(gna, .inl (cy 3, gnan, .inr (.inr (.inr (.inr (yad gnad))))))], xg_rows gnad gnan (cy 1) gnak gnaG, [(gnb, .inl (cy 3, gnbn, .inr (.inr (.inr (.inr (yad gnbd))))))], xg_rows gnbd gnbn (cy 1) gnbk gnbG, [(gB, .inl (cy 4, 5, .inr (.inr (.inr (.inr (yad gBd))))))], xg_rows gBd 5 (cy 2) 5 gBG, [(gU, .inl (cy 3, 5, .inr (.inr (.inr (.inr (yad gUd))))))], xg_rows gUd 5 (cy 1) 5 b_40.2.2.1]) rfl ?_
        obtain rfl := Option.some.inj hR
        refine xr_perm C 13 [0, 9, 10, 11, 12, 1, 2, 3, 4] [5, 6, 7, 8] [[(g, .inr (11, [.int gth, .ref gw, .ref gB, .ref gK, .ref gU, .ref gS, .int (gbe + 1), .int gwo, .long b_40.2.1, .null, .int glr, .int glc, .int w_54.1, .int (ggo + 1), .ref q_52, .int w_54.2.1, .ref q_52]))], [(gB, .inl (cy 4, 5, .inr (.inr (.inr (.inr (yad gBd))))))], xg_rows gBd 5 (cy 2) 5 gBG, [(gU, .inl (cy 3, 5, .inr (.inr (.inr (.inr (yad gUd))))))], xg_rows gUd 5 (cy 1) 5 b_40.2.2.1, [(gS, .inl (cy 3, 5, .inr (.inr (.inr (.inr (yad gSd))))))], xg_rows gSd 5 (cy 1) 5 b_40.2.2.2, [(q_52, .inl (cy 3, w_54.2.2.1, .inr (.inr (.inr (.inr (yad q_53))))))], xg_rows q_53 w_54.2.2.1 (cy 1) w_54.2.2.2.1 w_54.2.2.2.2] rfl (by decide +kernel) rfl ?_
        exact ret (Or.inr ⟨_, rfl, q_52, q_53, rfl, rfl⟩) (by show 0 + (if gti = 0 then 10 else 0) + 0 ≤ (if gti = 0 then 10 else 0); omega) (by show 0 + (if gti = 0 then 90 else 0) + 0 ≤ (if gti = 0 then 90 else 0); omega) dd_X9_one__9.2.2.2.2.2.2.2.2.2.2.2.1
  refine y_loop (P := fun (s_40 : Int32 × Int64 × (Nat → Nat → Int32) × (Nat → Nat → Int32)) => X p l e (yR 5 (if gti = 0 then 10 else 0) (if gti = 0 then 90 else 0)) s m args below meth c D A H0 10 Q [[(g, .inr (11, [.int gth, .ref gw, .ref gB, .ref gK, .ref gU, .ref gS, .int gbe, .int gwo, .long s_40.2.1, .ref gn, .int glr, .int glc, .int gti, .int ggo, .ref gR, .int gch, .ref gD]))], [(gn, .inr (10, [.int gnr, .int gnk, .int gnc, .int gng, .int gns, .ref gna, .ref gnb]))], [(gna, .inl (cy 3, gnan, .inr (.inr (.inr (.inr (yad gnad))))))], xg_rows gnad gnan (cy 1) gnak gnaG, [(gnb, .inl (cy 3, gnbn, .inr (.inr (.inr (.inr (yad gnbd))))))], xg_rows gnbd gnbn (cy 1) gnbk gnbG, [(gB, .inl (cy 4, 5, .inr (.inr (.inr (.inr (yad gBd))))))], xg_rows gBd 5 (cy 2) 5 gBG, [(gU, .inl (cy 3, 5, .inr (.inr (.inr (.inr (yad gUd))))))], xg_rows gUd 5 (cy 1) 5 s_40.2.2.1, [(gS, .inl (cy 3, 5, .inr (.inr (.inr (.inr (yad gSd))))))], xg_rows gSd 5 (cy 1) 5 s_40.2.2.2, [(gD, .inl (cy 3, gDn, .inr (.inr (.inr (.inr (yad gDd))))))], xg_rows gDd gDn (cy 1) gDk gDG] 0 0 [(0, .ref g), (1, .int y_5), (2, .int ((gti / x_14) * x_19)), (3, .int ((gti - gti / x_31 * x_31) * x_36)), (4, .int s_40.1)] 75 []) ?_ _ (0, gta, gUG, gSG) hb_40
  intro s_40 o_40 ho_40 hk_40 hx_40
  refine xr_iload (n := 77) (j := 4) C dd_X9_one__2.2.2.2.2.2.2.2.2.2.2.1 rfl rfl ?_
  refine xr_aload_n (n := 78) (j := 0) C dd_X9_one__2.2.2.2.2.2.2.2.2.2.2.2.1 rfl rfl ?_
  obtain ⟨x_55, hx_55, ho_40⟩ := yf_b ho_40
  refine xr_callVp (n := 81) (As := []) (rest := [.int s_40.1]) C (kX9_tileRows l D cy (g := g) (gth := gth) (gw := gw) (gB := gB) (gK := gK) (gU := gU) (gS := gS) (gbe := gbe) (gwo := gwo) (gta := s_40.2.1) (gn := gn) (glr := glr) (glc := glc) (gti := gti) (ggo := ggo) (gR := gR) (gch := gch) (gD := gD) (gnr := gnr) (gnk := gnk) (gnc := gnc) (gng := gng) (gns := gns) (gna := gna) (gnb := gnb) hx_55) mX9_tileRows u_1443 u_1445 u_40 0 rfl rfl 14 [0, 1] [2, 3, 4, 5, 6, 7, 8, 9, 10, 11, 12, 13] rfl (by decide +kernel) rfl rfl rfl rfl (Nat.le_of_ble_eq_true rfl) (Nat.le_of_ble_eq_true rfl) (Nat.le_of_ble_eq_true rfl) (by show 0 + 0 ≤ (if gti = 0 then 10 else 0); omega) (by show 0 + 0 ≤ (if gti = 0 then 90 else 0); omega) dd_X9_one__2.2.2.2.2.2.2.2.2.2.2.2.2.1 rfl (fun _ _ hp => hp.2) (fun v_56 hp_58 => ?_)
  obtain ⟨rfl, -⟩ := hp_58
  refine xr_st (st' := [.int x_55, .int s_40.1]) rfl ?_
  refine xr_icmp_ge (tgt := 252) (n := 84) C dd_X9_one__2.2.2.2.2.2.2.2.2.2.2.2.2.2.1 rfl rfl (fun c_59 => ?_) (fun c_59 => ?_)
  · replace ho_40 := yf_t c_59 ho_40
    refine xr_lv (lv' := [(0, .ref g), (2, .int ((gti / x_14) * x_19)), (3, .int ((gti - gti / x_31 * x_31) * x_36))]) [0, 2, 3] rfl ?_
    have e_60 := hx_40 _ (Option.some.inj ho_40).symm
    subst e_60
    exact K_40
  · replace ho_40 := yf_f c_59 ho_40
    refine xr_iconst (n := 85) (v := 0) C dd_X9_one__2.2.2.2.2.2.2.2.2.2.2.2.2.2.2.1 rfl rfl ?_
    refine xr_istore (n := 87) C [(5, .int 0), (0, .ref g), (1, .int y_5), (2, .int ((gti / x_14) * x_19)), (3, .int ((gti - gti / x_31 * x_31) * x_36)), (4, .int s_40.1)] dd_X9_one__2.2.2.2.2.2.2.2.2.2.2.2.2.2.2.2.1 (by decide) rfl rfl ?_
    refine xr_lv (lv' := [(0, .ref g), (1, .int y_5), (2, .int ((gti / x_14) * x_19)), (3, .int ((gti - gti / x_31 * x_31) * x_36)), (4, .int s_40.1), (5, .int 0)]) [1, 2, 3, 4, 5, 0] rfl ?_
    obtain ⟨b_61, hb_61, ho_40⟩ := yf_b ho_40
    have K_61 : X p l e (yR 5 (if gti = 0 then 10 else 0) (if gti = 0 then 90 else 0)) s m args below meth c D A H0 10 Q [[(g, .inr (11, [.int gth, .ref gw, .ref gB, .ref gK, .ref gU, .ref gS, .int gbe, .int gwo, .long b_61.2.1, .ref gn, .int glr, .int glc, .int gti, .int ggo, .ref gR, .int gch, .ref gD]))], [(gn, .inr (10, [.int gnr, .int gnk, .int gnc, .int gng, .int gns, .ref gna, .ref gnb]))], [(gna, .inl (cy 3, gnan, .inr (.inr (.inr (.inr (yad gnad))))))], xg_rows gnad gnan (cy 1) gnak gnaG, [(gnb, .inl (cy 3, gnbn, .inr (.inr (.inr (.inr (yad gnbd))))))], xg_rows gnbd gnbn (cy 1) gnbk gnbG, [(gB, .inl (cy 4, 5, .inr (.inr (.inr (.inr (yad gBd))))))], xg_rows gBd 5 (cy 2) 5 gBG, [(gU, .inl (cy 3, 5, .inr (.inr (.inr (.inr (yad gUd))))))], xg_rows gUd 5 (cy 1) 5 b_61.2.2.1, [(gS, .inl (cy 3, 5, .inr (.inr (.inr (.inr (yad gSd))))))], xg_rows gSd 5 (cy 1) 5 b_61.2.2.2, [(gD, .inl (cy 3, gDn, .inr (.inr (.inr (.inr (yad gDd))))))], xg_rows gDd gDn (cy 1) gDk gDG] 0 0 [(0, .ref g), (1, .int y_5), (2, .int ((gti / x_14) * x_19)), (3, .int ((gti - gti / x_31 * x_31) * x_36)), (4, .int s_40.1)] 246 [] := by
      refine xr_iinc (j := 4) (v := s_40.1 + 1) (n := 249) C [(4, .int (s_40.1 + 1)), (0, .ref g), (1, .int y_5), (2, .int ((gti / x_14) * x_19)), (3, .int ((gti - gti / x_31 * x_31) * x_36))] dd_X9_one__8.2.2.2.2.1 rfl rfl (by decide) rfl rfl ?_
      refine xr_goto (tgt := 75) C dd_X9_one__8.2.2.2.2.2.1 rfl ?_
      refine xr_lv (lv' := [(0, .ref g), (1, .int y_5), (2, .int ((gti / x_14) * x_19)), (3, .int ((gti - gti / x_31 * x_31) * x_36)), (4, .int (s_40.1 + 1))]) [1, 2, 3, 4, 0] rfl ?_
      exact hk_40 (s_40.1 + 1, b_61.2.1, b_61.2.2.1, b_61.2.2.2) (Option.some.inj ho_40).symm
    refine y_loop (P := fun (s_61 : Int32 × Int64 × (Nat → Nat → Int32) × (Nat → Nat → Int32)) => X p l e (yR 5 (if gti = 0 then 10 else 0) (if gti = 0 then 90 else 0)) s m args below meth c D A H0 10 Q [[(g, .inr (11, [.int gth, .ref gw, .ref gB, .ref gK, .ref gU, .ref gS, .int gbe, .int gwo, .long s_61.2.1, .ref gn, .int glr, .int glc, .int gti, .int ggo, .ref gR, .int gch, .ref gD]))], [(gn, .inr (10, [.int gnr, .int gnk, .int gnc, .int gng, .int gns, .ref gna, .ref gnb]))], [(gna, .inl (cy 3, gnan, .inr (.inr (.inr (.inr (yad gnad))))))], xg_rows gnad gnan (cy 1) gnak gnaG, [(gnb, .inl (cy 3, gnbn, .inr (.inr (.inr (.inr (yad gnbd))))))], xg_rows gnbd gnbn (cy 1) gnbk gnbG, [(gB, .inl (cy 4, 5, .inr (.inr (.inr (.inr (yad gBd))))))], xg_rows gBd 5 (cy 2) 5 gBG, [(gU, .inl (cy 3, 5, .inr (.inr (.inr (.inr (yad gUd))))))], xg_rows gUd 5 (cy 1) 5 s_61.2.2.1, [(gS, .inl (cy 3, 5, .inr (.inr (.inr (.inr (yad gSd))))))], xg_rows gSd 5 (cy 1) 5 s_61.2.2.2, [(gD, .inl (cy 3, gDn, .inr (.inr (.inr (.inr (yad gDd))))))], xg_rows gDd gDn (cy 1) gDk gDG] 0 0 [(0, .ref g), (1, .int y_5), (2, .int ((gti / x_14) * x_19)), (3, .int ((gti - gti / x_31 * x_31) * x_36)), (4, .int s_40.1), (5, .int s_61.1)] 87 []) ?_ _ (0, s_40.2.1, s_40.2.2.1, s_40.2.2.2) hb_61
    intro s_61 o_61 ho_61 hk_61 hx_61
    refine xr_iload (n := 89) (j := 5) C dd_X9_one__3.1 rfl rfl ?_
    refine xr_aload_n (n := 90) (j := 0) C dd_X9_one__3.2.1 rfl rfl ?_
    obtain ⟨x_62, hx_62, ho_61⟩ := yf_b ho_61
    refine xr_callVp (n := 93) (As := []) (rest := [.int s_61.1]) C (kX9_tileColumns l D cy (g := g) (gth := gth) (gw := gw) (gB := gB) (gK := gK) (gU := gU) (gS := gS) (gbe := gbe) (gwo := gwo) (gta := s_61.2.1) (gn := gn) (glr := glr) (glc := glc) (gti := gti) (ggo := ggo) (gR := gR) (gch := gch) (gD := gD) (gnr := gnr) (gnk := gnk) (gnc := gnc) (gng := gng) (gns := gns) (gna := gna) (gnb := gnb) hx_62) mX9_tileColumns u_1447 u_1449 u_41 0 rfl rfl 14 [0, 1] [2, 3, 4, 5, 6, 7, 8, 9, 10, 11, 12, 13] rfl (by decide +kernel) rfl rfl rfl rfl (Nat.le_of_ble_eq_true rfl) (Nat.le_of_ble_eq_true rfl) (Nat.le_of_ble_eq_true rfl) (by show 0 + 0 ≤ (if gti = 0 then 10 else 0); omega) (by show 0 + 0 ≤ (if gti = 0 then 90 else 0); omega) dd_X9_one__3.2.2.1 rfl (fun _ _ hp => hp.2) (fun v_63 hp_65 => ?_)
    obtain ⟨rfl, -⟩ := hp_65
    refine xr_st (st' := [.int x_62, .int s_61.1]) rfl ?_
    refine xr_icmp_ge (tgt := 246) (n := 96) C dd_X9_one__3.2.2.2.1 rfl rfl (fun c_66 => ?_) (fun c_66 => ?_)
    · replace ho_61 := yf_t c_66 ho_61
      refine xr_lv (lv' := [(0, .ref g), (1, .int y_5), (2, .int ((gti / x_14) * x_19)), (3, .int ((gti - gti / x_31 * x_31) * x_36)), (4, .int s_40.1)]) [0, 1, 2, 3, 4] rfl ?_
      have e_67 := hx_61 _ (Option.some.inj ho_61).symm
      subst e_67
      exact K_61
    · replace ho_61 := yf_f c_66 ho_61
      refine xr_aload_n (n := 97) (j := 0) C dd_X9_one__3.2.2.2.2.1 rfl rfl ?_
      refine xr_aload_n (n := 98) (j := 0) C dd_X9_one__3.2.2.2.2.2.1 rfl rfl ?_
      refine xr_get (n := 101) C 0 rfl rfl 13 (by decide) in_X9 u_1250 rfl (v := .int ggo) rfl dd_X9_one__3.2.2.2.2.2.2.1 rfl ?_
      refine xr_iload (n := 103) (j := 4) C dd_X9_one__3.2.2.2.2.2.2.2.1 rfl rfl ?_
      refine xr_iload (n := 105) (j := 5) C dd_X9_one__3.2.2.2.2.2.2.2.2.1 rfl rfl ?_
      obtain ⟨x_68, hx_68, ho_61⟩ := yf_b ho_61
      refine xr_callVp (n := 108) (As := [.int ggo, .int s_40.1, .int s_61.1]) (rest := []) C (kX9_stepTaken l D cy (g := g) (gth := gth) (gw := gw) (gB := gB) (gK := gK) (gU := gU) (gS := gS) (gbe := gbe) (gwo := gwo) (gta := s_61.2.1) (gn := gn) (glr := glr) (glc := glc) (gti := gti) (ggo := ggo) (gR := gR) (gch := gch) (gD := gD) (gnr := gnr) (gnk := gnk) (gnc := gnc) (gng := gng) (gns := gns) (gna := gna) (gnb := gnb) (gnad := gnad) (gnan := gnan) (gnak := gnak) (gnaG := gnaG) (gnbd := gnbd) (gnbn := gnbn) (gnbk := gnbk) (gnbG := gnbG) (i1 := ggo) (i2 := s_40.1) (i3 := s_61.1) hx_68) mX9_stepTaken u_1451 u_1453 u_42 0 rfl rfl 14 [0, 1, 2, 3, 4, 5] [6, 7, 8, 9, 10, 11, 12, 13] rfl (by decide +kernel) rfl rfl rfl rfl (Nat.le_of_ble_eq_true rfl) (Nat.le_of_ble_eq_true rfl) (Nat.le_of_ble_eq_true rfl) (by show 0 + 0 ≤ (if gti = 0 then 10 else 0); omega) (by show 0 + 0 ≤ (if gti = 0 then 90 else 0); omega) dd_X9_one__3.2.2.2.2.2.2.2.2.2.1 rfl (fun _ _ hp => hp.2) (fun v_69 hp_71 => ?_)
      obtain ⟨rfl, -⟩ := hp_71
      refine xr_st (st' := [.int x_68]) rfl ?_
      refine xr_istore (n := 110) C [(6, .int x_68), (0, .ref g), (1, .int y_5), (2, .int ((gti / x_14) * x_19)), (3, .int ((gti - gti / x_31 * x_31) * x_36)), (4, .int s_40.1), (5, .int s_61.1)] dd_X9_one__3.2.2.2.2.2.2.2.2.2.2.1 (by decide) rfl rfl ?_
      refine xr_iload (n := 112) (j := 0) C dd_X9_one__3.2.2.2.2.2.2.2.2.2.2.2.1 rfl rfl ?_
      refine xr_iconst (n := 113) (v := -1) C dd_X9_one__3.2.2.2.2.2.2.2.2.2.2.2.2.1 rfl rfl ?_
      refine xr_icmp_ne (tgt := 119) (n := 116) C dd_X9_one__3.2.2.2.2.2.2.2.2.2.2.2.2.2.1 rfl rfl (fun c_72 => ?_) (fun c_72 => ?_)
      · replace ho_61 := yf_f c_72 ho_61
        refine xr_iload_n (n := 120) (j := 2) C dd_X9_one__3.2.2.2.2.2.2.2.2.2.2.2.2.2.2.2.1 rfl rfl ?_
        refine xr_iload (n := 122) (j := 0) C dd_X9_one__4.1 rfl rfl ?_
        obtain ⟨x_73, hx_73, ho_61⟩ := yf_b ho_61
        refine xr_callSp (n := 125) (As := [.int y_5, .int x_68]) (rest := []) C (kX9_nth l D cy (i1 := y_5) (i2 := x_68) hx_73) mX9_nth u_1455 u_1456 14 [] [0, 1, 2, 3, 4, 5, 6, 7, 8, 9, 10, 11, 12, 13] rfl (by decide +kernel) rfl rfl rfl rfl (Nat.le_of_ble_eq_true rfl) (Nat.le_of_ble_eq_true rfl) (Nat.le_of_ble_eq_true rfl) (by show 0 + 0 ≤ (if gti = 0 then 10 else 0); omega) (by show 0 + 0 ≤ (if gti = 0 then 90 else 0); omega) dd_X9_one__4.2.1 rfl (fun _ _ hp => hp.2) (fun v_74 hp_76 => ?_)
        obtain ⟨rfl, -⟩ := hp_76
        refine xr_st (st' := [.int x_73]) rfl ?_
        refine xr_istore (n := 127) C [(7, .int x_73), (6, .int x_68), (0, .ref g), (1, .int y_5), (2, .int ((gti / x_14) * x_19)), (3, .int ((gti - gti / x_31 * x_31) * x_36)), (4, .int s_40.1), (5, .int s_61.1)] dd_X9_one__4.2.2.1 (by decide) rfl rfl ?_
        refine xr_aload_n (n := 128) (j := 2) C dd_X9_one__4.2.2.2.1 rfl rfl ?_
        refine xr_get (n := 131) C 0 rfl rfl 10 (by decide) in_X9 u_1247 rfl (v := .int glr) rfl dd_X9_one__4.2.2.2.2.1 rfl ?_
        refine xr_iload (n := 133) (j := 6) C dd_X9_one__4.2.2.2.2.2.1 rfl rfl ?_
        obtain ⟨x_77, hx_77, ho_61⟩ := yf_b ho_61
        refine xr_callSp (n := 136) (As := [.int glr, .int s_40.1]) (rest := []) C (kX9_nth l D cy (i1 := glr) (i2 := s_40.1) hx_77) mX9_nth u_1455 u_1456 14 [] [0, 1, 2, 3, 4, 5, 6, 7, 8, 9, 10, 11, 12, 13] rfl (by decide +kernel) rfl rfl rfl rfl (Nat.le_of_ble_eq_true rfl) (Nat.le_of_ble_eq_true rfl) (Nat.le_of_ble_eq_true rfl) (by show 0 + 0 ≤ (if gti = 0 then 10 else 0); omega) (by show 0 + 0 ≤ (if gti = 0 then 90 else 0); omega) dd_X9_one__4.2.2.2.2.2.2.1 rfl (fun _ _ hp => hp.2) (fun v_78 hp_80 => ?_)
        obtain ⟨rfl, -⟩ := hp_80
        refine xr_st (st' := [.int x_77]) rfl ?_
        refine xr_istore (n := 138) C [(8, .int x_77), (7, .int x_73), (6, .int x_68), (0, .ref g), (1, .int y_5), (2, .int ((gti / x_14) * x_19)), (3, .int ((gti - gti / x_31 * x_31) * x_36)), (4, .int s_40.1), (5, .int s_61.1)] dd_X9_one__4.2.2.2.2.2.2.2.1 (by decide) rfl rfl ?_
        refine xr_aload_n (n := 139) (j := 3) C dd_X9_one__4.2.2.2.2.2.2.2.2.1 rfl rfl ?_
        refine xr_get (n := 142) C 0 rfl rfl 11 (by decide) in_X9 u_1248 rfl (v := .int glc) rfl dd_X9_one__4.2.2.2.2.2.2.2.2.2.1 rfl ?_
        refine xr_iload (n := 144) (j := 8) C dd_X9_one__4.2.2.2.2.2.2.2.2.2.2.1 rfl rfl ?_
        obtain ⟨x_81, hx_81, ho_61⟩ := yf_b ho_61
        refine xr_callSp (n := 147) (As := [.int glc, .int s_61.1]) (rest := []) C (kX9_nth l D cy (i1 := glc) (i2 := s_61.1) hx_81) mX9_nth u_1455 u_1456 14 [] [0, 1, 2, 3, 4, 5, 6, 7, 8, 9, 10, 11, 12, 13] rfl (by decide +kernel) rfl rfl rfl rfl (Nat.le_of_ble_eq_true rfl) (Nat.le_of_ble_eq_true rfl) (Nat.le_of_ble_eq_true rfl) (by show 0 + 0 ≤ (if gti = 0 then 10 else 0); omega) (by show 0 + 0 ≤ (if gti = 0 then 90 else 0); omega) dd_X9_one__4.2.2.2.2.2.2.2.2.2.2.2.1 rfl (fun _ _ hp => hp.2) (fun v_82 hp_84 => ?_)
        obtain ⟨rfl, -⟩ := hp_84
        refine xr_st (st' := [.int x_81]) rfl ?_
        refine xr_istore (n := 149) C [(9, .int x_81), (8, .int x_77), (7, .int x_73), (6, .int x_68), (0, .ref g), (1, .int y_5), (2, .int ((gti / x_14) * x_19)), (3, .int ((gti - gti / x_31 * x_31) * x_36)), (4, .int s_40.1), (5, .int s_61.1)] dd_X9_one__4.2.2.2.2.2.2.2.2.2.2.2.2.1 (by decide) rfl rfl ?_
        refine xr_aload_n (n := 150) (j := 4) C dd_X9_one__4.2.2.2.2.2.2.2.2.2.2.2.2.2.1 rfl rfl ?_
        refine xr_get (n := 153) C 0 rfl rfl 5 (by decide) in_X9 u_1242 rfl (v := .ref gS) rfl dd_X9_one__4.2.2.2.2.2.2.2.2.2.2.2.2.2.2.1 rfl ?_
        refine xr_iload (n := 155) (j := 1) C dd_X9_one__4.2.2.2.2.2.2.2.2.2.2.2.2.2.2.2.1 rfl rfl ?_
        obtain ⟨g_85, ho_61⟩ := yf_g ho_61
        refine xr_aald (n := 156) C 10 0 rfl 3 rfl rfl g_85 rfl dd_X9_one__5.1 rfl ?_
        refine xr_iload (n := 158) (j := 0) C dd_X9_one__5.2.1 rfl rfl ?_
        refine xr_aload_n (n := 159) (j := 4) C dd_X9_one__5.2.2.1 rfl rfl ?_
        refine xr_get (n := 162) C 0 rfl rfl 9 (by decide) in_X9 u_1246 rfl (v := .ref gn) rfl dd_X9_one__5.2.2.2.1 rfl ?_
        refine xr_aload_n (n := 163) (j := 4) C dd_X9_one__5.2.2.2.2.1 rfl rfl ?_
        refine xr_get (n := 166) C 0 rfl rfl 5 (by decide) in_X9 u_1242 rfl (v := .ref gS) rfl dd_X9_one__5.2.2.2.2.2.1 rfl ?_
        refine xr_iload (n := 168) (j := 1) C dd_X9_one__5.2.2.2.2.2.2.1 rfl rfl ?_
        obtain ⟨g_86, ho_61⟩ := yf_g ho_61
        refine xr_aald (n := 169) C 10 0 rfl 3 rfl rfl g_86 rfl dd_X9_one__5.2.2.2.2.2.2.2.1 rfl ?_
        refine xr_iload (n := 171) (j := 0) C dd_X9_one__5.2.2.2.2.2.2.2.2.1 rfl rfl ?_
        obtain ⟨g_87, ho_61⟩ := yf_g ho_61
        refine xr_ialdg (n := 172) C 11 rfl x_77.toNatClampNeg (ylt g_86) g_87 dd_X9_one__5.2.2.2.2.2.2.2.2.2.1 rfl ?_
        refine xr_aload_n (n := 173) (j := 4) C dd_X9_one__5.2.2.2.2.2.2.2.2.2.2.1 rfl rfl ?_
        refine xr_get (n := 176) C 0 rfl rfl 9 (by decide) in_X9 u_1246 rfl (v := .ref gn) rfl dd_X9_one__5.2.2.2.2.2.2.2.2.2.2.2.1 rfl ?_
        refine xr_iload_n (n := 177) (j := 6) C dd_X9_one__5.2.2.2.2.2.2.2.2.2.2.2.2.1 rfl rfl ?_
        refine xr_iload (n := 179) (j := 8) C dd_X9_one__5.2.2.2.2.2.2.2.2.2.2.2.2.2.1 rfl rfl ?_
        refine xr_iadd (n := 180) C dd_X9_one__5.2.2.2.2.2.2.2.2.2.2.2.2.2.2.1 rfl ?_
        refine xr_iload (n := 182) (j := 2) C dd_X9_one__5.2.2.2.2.2.2.2.2.2.2.2.2.2.2.2.1 rfl rfl ?_
        obtain ⟨x_88, hx_88, ho_61⟩ := yf_b ho_61
        refine xr_callVp (n := 185) (As := [.int (((gti / x_14) * x_19) + s_40.1), .int x_73]) (rest := [.int (s_61.2.2.2 x_77.toNatClampNeg x_81.toNatClampNeg), .ref gn, .int x_81, .ref (gSd x_77.toNatClampNeg)]) C (kX8_a l D cy (w := gn) (wr := gnr) (wk := gnk) (wc := gnc) (wg := gng) (ws := gns) (wa := gna) (wb := gnb) (wad := gnad) (wan := gnan) (wak := gnak) (waG := gnaG) (i1 := ((gti / x_14) * x_19) + s_40.1) (i2 := x_73) hx_88) mX8_a u_1462 u_1463 u_1464 1 rfl rfl 14 [1, 2, 3] [0, 4, 5, 6, 7, 8, 9, 10, 11, 12, 13] rfl (by decide +kernel) rfl rfl rfl rfl (Nat.le_of_ble_eq_true rfl) (Nat.le_of_ble_eq_true rfl) (Nat.le_of_ble_eq_true rfl) (by show 0 + 0 ≤ (if gti = 0 then 10 else 0); omega) (by show 0 + 0 ≤ (if gti = 0 then 90 else 0); omega) dd_X9_one__6.1 rfl (fun _ _ hp => hp.2) (fun v_89 hp_91 => ?_)
        obtain ⟨rfl, -⟩ := hp_91
        refine xr_st (st' := [.int x_88, .int (s_61.2.2.2 x_77.toNatClampNeg x_81.toNatClampNeg), .ref gn, .int x_81, .ref (gSd x_77.toNatClampNeg)]) rfl ?_
        refine xr_aload_n (n := 186) (j := 4) C dd_X9_one__6.2.1 rfl rfl ?_
        refine xr_get (n := 189) C 0 rfl rfl 9 (by decide) in_X9 u_1246 rfl (v := .ref gn) rfl dd_X9_one__6.2.2.1 rfl ?_
        refine xr_iload (n := 191) (j := 2) C dd_X9_one__6.2.2.2.1 rfl rfl ?_
        refine xr_iload_n (n := 192) (j := 7) C dd_X9_one__6.2.2.2.2.1 rfl rfl ?_
        refine xr_iload (n := 194) (j := 9) C dd_X9_one__6.2.2.2.2.2.1 rfl rfl ?_
        refine xr_iadd (n := 195) C dd_X9_one__6.2.2.2.2.2.2.1 rfl ?_
        obtain ⟨x_92, hx_92, ho_61⟩ := yf_b ho_61
        refine xr_callVp (n := 198) (As := [.int x_73, .int (((gti - gti / x_31 * x_31) * x_36) + s_61.1)]) (rest := [.int x_88, .int (s_61.2.2.2 x_77.toNatClampNeg x_81.toNatClampNeg), .ref gn, .int x_81, .ref (gSd x_77.toNatClampNeg)]) C (kX8_b l D cy (w := gn) (wr := gnr) (wk := gnk) (wc := gnc) (wg := gng) (ws := gns) (wa := gna) (wb := gnb) (wbd := gnbd) (wbn := gnbn) (wbk := gnbk) (wbG := gnbG) (i1 := x_73) (i2 := ((gti - gti / x_31 * x_31) * x_36) + s_61.1) hx_92) mX8_b u_1466 u_1467 u_1468 1 rfl rfl 14 [1, 4, 5] [0, 2, 3, 6, 7, 8, 9, 10, 11, 12, 13] rfl (by decide +kernel) rfl rfl rfl rfl (Nat.le_of_ble_eq_true rfl) (Nat.le_of_ble_eq_true rfl) (Nat.le_of_ble_eq_true rfl) (by show 0 + 0 ≤ (if gti = 0 then 10 else 0); omega) (by show 0 + 0 ≤ (if gti = 0 then 90 else 0); omega) dd_X9_one__6.2.2.2.2.2.2.2.1 rfl (fun _ _ hp => hp.2) (fun v_93 hp_95 => ?_)
        obtain ⟨rfl, -⟩ := hp_95
        refine xr_st (st' := [.int x_92, .int x_88, .int (s_61.2.2.2 x_77.toNatClampNeg x_81.toNatClampNeg), .ref gn, .int x_81, .ref (gSd x_77.toNatClampNeg)]) rfl ?_
        obtain ⟨x_96, hx_96, ho_61⟩ := yf_b ho_61
        refine xr_callVp (n := 201) (As := [.int (s_61.2.2.2 x_77.toNatClampNeg x_81.toNatClampNeg), .int x_88, .int x_92]) (rest := [.int x_81, .ref (gSd x_77.toNatClampNeg)]) C (kX8_with l D cy (w := gn) (wr := gnr) (wk := gnk) (wc := gnc) (wg := gng) (ws := gns) (wa := gna) (wb := gnb) (i1 := s_61.2.2.2 x_77.toNatClampNeg x_81.toNatClampNeg) (i2 := x_88) (i3 := x_92) hx_96) mX8_with u_1470 u_1471 u_1472 1 rfl rfl 14 [1] [0, 2, 3, 4, 5, 6, 7, 8, 9, 10, 11, 12, 13] rfl (by decide +kernel) rfl rfl rfl rfl (Nat.le_of_ble_eq_true rfl) (Nat.le_of_ble_eq_true rfl) (Nat.le_of_ble_eq_true rfl) (by show 0 + 0 ≤ (if gti = 0 then 10 else 0); omega) (by show 0 + 0 ≤ (if gti = 0 then 90 else 0); omega) dd_X9_one__6.2.2.2.2.2.2.2.2.1 rfl (fun _ _ hp => hp.2) (fun v_97 hp_99 => ?_)
        obtain ⟨rfl, -⟩ := hp_99
        refine xr_st (st' := [.int x_96, .int x_81, .ref (gSd x_77.toNatClampNeg)]) rfl ?_
        refine xr_aload_n (n := 202) (j := 4) C dd_X9_one__6.2.2.2.2.2.2.2.2.2.1 rfl rfl ?_
        refine xr_get (n := 205) C 0 rfl rfl 2 (by decide) in_X9 u_1239 rfl (v := .ref gB) rfl dd_X9_one__6.2.2.2.2.2.2.2.2.2.2.1 rfl ?_
        refine xr_iload (n := 207) (j := 1) C dd_X9_one__6.2.2.2.2.2.2.2.2.2.2.2.1 rfl rfl ?_
        obtain ⟨g_100, ho_61⟩ := yf_g ho_61
        refine xr_aald (n := 208) C 6 0 rfl 4 rfl rfl g_100 rfl dd_X9_one__6.2.2.2.2.2.2.2.2.2.2.2.2.1 rfl ?_
        refine xr_iload (n := 210) (j := 0) C dd_X9_one__6.2.2.2.2.2.2.2.2.2.2.2.2.2.1 rfl rfl ?_
        obtain ⟨g_101, ho_61⟩ := yf_g ho_61
        refine xr_zaldg (n := 211) C 7 rfl x_77.toNatClampNeg (ylt g_100) g_101 dd_X9_one__6.2.2.2.2.2.2.2.2.2.2.2.2.2.2.1 rfl ?_
        obtain ⟨x_102, hx_102, ho_61⟩ := yf_b ho_61
        refine xr_callSp (n := 214) (As := [.int (gBG x_77.toNatClampNeg x_81.toNatClampNeg)]) (rest := [.int x_96, .int x_81, .ref (gSd x_77.toNatClampNeg)]) C (kX9_one l D cy (i1 := gBG x_77.toNatClampNeg x_81.toNatClampNeg) hx_102) mX9_one u_1312 u_1313 14 [] [0, 1, 2, 3, 4, 5, 6, 7, 8, 9, 10, 11, 12, 13] rfl (by decide +kernel) rfl rfl rfl rfl (Nat.le_of_ble_eq_true rfl) (Nat.le_of_ble_eq_true rfl) (Nat.le_of_ble_eq_true rfl) (by show 0 + 0 ≤ (if gti = 0 then 10 else 0); omega) (by show 0 + 0 ≤ (if gti = 0 then 90 else 0); omega) dd_X9_one__6.2.2.2.2.2.2.2.2.2.2.2.2.2.2.2.1 rfl (fun _ _ hp => hp.2) (fun v_103 hp_105 => ?_)
        obtain ⟨rfl, -⟩ := hp_105
        refine xr_st (st' := [.int x_102, .int x_96, .int x_81, .ref (gSd x_77.toNatClampNeg)]) rfl ?_
        refine xr_iadd (n := 215) C dd_X9_one__7.1 rfl ?_
        obtain ⟨g_106, ho_61⟩ := yf_g ho_61
        refine xr_iastg (n := 216) C 11 rfl x_77.toNatClampNeg (ylt g_85) g_106 [[(g, .inr (11, [.int gth, .ref gw, .ref gB, .ref gK, .ref gU, .ref gS, .int gbe, .int gwo, .long s_61.2.1, .ref gn, .int glr, .int glc, .int gti, .int ggo, .ref gR, .int gch, .ref gD]))], [(gn, .inr (10, [.int gnr, .int gnk, .int gnc, .int gng, .int gns, .ref gna, .ref gnb]))], [(gna, .inl (cy 3, gnan, .inr (.inr (.inr (.inr (yad gnad))))))], xg_rows gnad gnan (cy 1) gnak gnaG, [(gnb, .inl (cy 3, gnbn, .inr (.inr (.inr (.inr (yad gnbd))))))], xg_rows gnbd gnbn (cy 1) gnbk gnbG, [(gB, .inl (cy 4, 5, .inr (.inr (.inr (.inr (yad gBd))))))], xg_rows gBd 5 (cy 2) 5 gBG, [(gU, .inl (cy 3, 5, .inr (.inr (.inr (.inr (yad gUd))))))], xg_rows gUd 5 (cy 1) 5 s_61.2.2.1, [(gS, .inl (cy 3, 5, .inr (.inr (.inr (.inr (yad gSd))))))], xg_rows gSd 5 (cy 1) 5 (upg s_61.2.2.2 x_77.toNatClampNeg x_81.toNatClampNeg (x_96 + x_102)), [(gD, .inl (cy 3, gDn, .inr (.inr (.inr (.inr (yad gDd))))))], xg_rows gDd gDn (cy 1) gDk gDG] rfl dd_X9_one__7.2.1 rfl ?_
        refine xr_aload_n (n := 217) (j := 4) C dd_X9_one__7.2.2.1 rfl rfl ?_
        refine xr_get (n := 220) C 0 rfl rfl 4 (by decide) in_X9 u_1241 rfl (v := .ref gU) rfl dd_X9_one__7.2.2.2.1 rfl ?_
        refine xr_iload (n := 222) (j := 1) C dd_X9_one__7.2.2.2.2.1 rfl rfl ?_
        obtain ⟨g_107, ho_61⟩ := yf_g ho_61
        refine xr_aald (n := 223) C 8 0 rfl 3 rfl rfl g_107 rfl dd_X9_one__7.2.2.2.2.2.1 rfl ?_
        refine xr_iload (n := 225) (j := 0) C dd_X9_one__7.2.2.2.2.2.2.1 rfl rfl ?_
        refine xr_dup2 (n := 226) C dd_X9_one__7.2.2.2.2.2.2.2.1 rfl rfl rfl ?_
        obtain ⟨g_108, ho_61⟩ := yf_g ho_61
        refine xr_ialdg (n := 227) C 9 rfl x_77.toNatClampNeg (ylt g_107) g_108 dd_X9_one__7.2.2.2.2.2.2.2.2.1 rfl ?_
        refine xr_iconst (n := 228) (v := 1) C dd_X9_one__7.2.2.2.2.2.2.2.2.2.1 rfl rfl ?_
        refine xr_iadd (n := 229) C dd_X9_one__7.2.2.2.2.2.2.2.2.2.2.1 rfl ?_
        obtain ⟨g_109, ho_61⟩ := yf_g ho_61
        refine xr_iastg (n := 230) C 9 rfl x_77.toNatClampNeg (ylt g_107) g_109 [[(g, .inr (11, [.int gth, .ref gw, .ref gB, .ref gK, .ref gU, .ref gS, .int gbe, .int gwo, .long s_61.2.1, .ref gn, .int glr, .int glc, .int gti, .int ggo, .ref gR, .int gch, .ref gD]))], [(gn, .inr (10, [.int gnr, .int gnk, .int gnc, .int gng, .int gns, .ref gna, .ref gnb]))], [(gna, .inl (cy 3, gnan, .inr (.inr (.inr (.inr (yad gnad))))))], xg_rows gnad gnan (cy 1) gnak gnaG, [(gnb, .inl (cy 3, gnbn, .inr (.inr (.inr (.inr (yad gnbd))))))], xg_rows gnbd gnbn (cy 1) gnbk gnbG, [(gB, .inl (cy 4, 5, .inr (.inr (.inr (.inr (yad gBd))))))], xg_rows gBd 5 (cy 2) 5 gBG, [(gU, .inl (cy 3, 5, .inr (.inr (.inr (.inr (yad gUd))))))], xg_rows gUd 5 (cy 1) 5 (upg s_61.2.2.1 x_77.toNatClampNeg x_81.toNatClampNeg ((s_61.2.2.1 x_77.toNatClampNeg x_81.toNatClampNeg) + 1)), [(gS, .inl (cy 3, 5, .inr (.inr (.inr (.inr (yad gSd))))))], xg_rows gSd 5 (cy 1) 5 (upg s_61.2.2.2 x_77.toNatClampNeg x_81.toNatClampNeg (x_96 + x_102)), [(gD, .inl (cy 3, gDn, .inr (.inr (.inr (.inr (yad gDd))))))], xg_rows gDd gDn (cy 1) gDk gDG] rfl dd_X9_one__7.2.2.2.2.2.2.2.2.2.2.2.1 rfl ?_
        refine xr_aload_n (n := 231) (j := 4) C dd_X9_one__7.2.2.2.2.2.2.2.2.2.2.2.2.1 rfl rfl ?_
        refine xr_dup (n := 232) C dd_X9_one__7.2.2.2.2.2.2.2.2.2.2.2.2.2.1 rfl rfl ?_
        refine xr_get (n := 235) C 0 rfl rfl 8 (by decide) in_X9 u_1245 rfl (v := .long s_61.2.1) rfl dd_X9_one__7.2.2.2.2.2.2.2.2.2.2.2.2.2.2.1 rfl ?_
        refine xr_lconst (n := 236) (v := 1) C dd_X9_one__7.2.2.2.2.2.2.2.2.2.2.2.2.2.2.2.1 rfl rfl ?_
        refine xr_ladd (n := 237) C dd_X9_one__8.1 rfl ?_
        refine xr_put (n := 240) C 0 rfl rfl 8 (by decide) in_X9 tyX9 tyX9_ok nmX9 u_1245 rfl rfl rfl rfl (Nat.le_of_ble_eq_true rfl) [[(g, .inr (11, [.int gth, .ref gw, .ref gB, .ref gK, .ref gU, .ref gS, .int gbe, .int gwo, .long (s_61.2.1 + 1), .ref gn, .int glr, .int glc, .int gti, .int ggo, .ref gR, .int gch, .ref gD]))], [(gn, .inr (10, [.int gnr, .int gnk, .int gnc, .int gng, .int gns, .ref gna, .ref gnb]))], [(gna, .inl (cy 3, gnan, .inr (.inr (.inr (.inr (yad gnad))))))], xg_rows gnad gnan (cy 1) gnak gnaG, [(gnb, .inl (cy 3, gnbn, .inr (.inr (.inr (.inr (yad gnbd))))))], xg_rows gnbd gnbn (cy 1) gnbk gnbG, [(gB, .inl (cy 4, 5, .inr (.inr (.inr (.inr (yad gBd))))))], xg_rows gBd 5 (cy 2) 5 gBG, [(gU, .inl (cy 3, 5, .inr (.inr (.inr (.inr (yad gUd))))))], xg_rows gUd 5 (cy 1) 5 (upg s_61.2.2.1 x_77.toNatClampNeg x_81.toNatClampNeg ((s_61.2.2.1 x_77.toNatClampNeg x_81.toNatClampNeg) + 1)), [(gS, .inl (cy 3, 5, .inr (.inr (.inr (.inr (yad gSd))))))], xg_rows gSd 5 (cy 1) 5 (upg s_61.2.2.2 x_77.toNatClampNeg x_81.toNatClampNeg (x_96 + x_102)), [(gD, .inl (cy 3, gDn, .inr (.inr (.inr (.inr (yad gDd))))))], xg_rows gDd gDn (cy 1) gDk gDG] rfl rfl dd_X9_one__8.2.1 ?_
        refine xr_iinc (j := 9) (v := s_61.1 + 1) (n := 243) C [(5, .int (s_61.1 + 1)), (9, .int x_81), (8, .int x_77), (7, .int x_73), (6, .int x_68), (0, .ref g), (1, .int y_5), (2, .int ((gti / x_14) * x_19)), (3, .int ((gti - gti / x_31 * x_31) * x_36)), (4, .int s_40.1)] dd_X9_one__8.2.2.1 rfl rfl (by decide) rfl rfl ?_
        refine xr_goto (tgt := 87) C dd_X9_one__8.2.2.2.1 rfl ?_
        refine xr_lv (lv' := [(0, .ref g), (1, .int y_5), (2, .int ((gti / x_14) * x_19)), (3, .int ((gti - gti / x_31 * x_31) * x_36)), (4, .int s_40.1), (5, .int (s_61.1 + 1))]) [5, 6, 7, 8, 9, 0] rfl ?_
        exact hk_61 (s_61.1 + 1, s_61.2.1 + 1, upg s_61.2.2.1 x_77.toNatClampNeg x_81.toNatClampNeg ((s_61.2.2.1 x_77.toNatClampNeg x_81.toNatClampNeg) + 1), upg s_61.2.2.2 x_77.toNatClampNeg x_81.toNatClampNeg (x_96 + x_102)) (Option.some.inj ho_61).symm
      · replace ho_61 := yf_t c_72 ho_61
        refine xr_goto (tgt := 240) C dd_X9_one__3.2.2.2.2.2.2.2.2.2.2.2.2.2.2.1 rfl ?_
        refine xr_iinc (j := 6) (v := s_61.1 + 1) (n := 243) C [(5, .int (s_61.1 + 1)), (6, .int x_68), (0, .ref g), (1, .int y_5), (2, .int ((gti / x_14) * x_19)), (3, .int ((gti - gti / x_31 * x_31) * x_36)), (4, .int s_40.1)] dd_X9_one__8.2.2.1 rfl rfl (by decide) rfl rfl ?_
        refine xr_goto (tgt := 87) C dd_X9_one__8.2.2.2.1 rfl ?_
        refine xr_lv (lv' := [(0, .ref g), (1, .int y_5), (2, .int ((gti / x_14) * x_19)), (3, .int ((gti - gti / x_31 * x_31) * x_36)), (4, .int s_40.1), (5, .int (s_61.1 + 1))]) [2, 3, 4, 5, 6, 0] rfl ?_
        exact hk_61 (s_61.1 + 1, s_61.2.1, s_61.2.2.1, s_61.2.2.2) (Option.some.inj ho_61).symm
theorem dd_X9_beat_0 : dk_R cX9_beat [(0, .aload_n 0, 1), (1, .iload_n 1, 1), (2, .iconst 1, 1), (3, .sipush 300, 3), (6, .invokestatic 75, 3), (9, .ifCond .ne 7, 3), (12, .iconst 1, 1), (13, .goto 4, 3), (16, .iconst 0, 1), (17, .iconst 1, 1), (18, .invokevirtual 79, 3), (21, .ifCond .ne 23, 3), (24, .aload_n 0, 1), (25, .aload_n 0, 1), (26, .getfield 137, 3), (29, .ifnonnull 7, 3)] := dk_use _ _ (by decide +kernel)
theorem dd_X9_beat_1 : dk_R cX9_beat [(32, .iconst 1, 1), (33, .goto 4, 3), (36, .iconst 0, 1), (37, .iconst 2, 1), (38, .invokevirtual 67, 3), (41, .ifCond .eq 5, 3), (44, .iconst 0, 1), (45, .ireturn, 1), (46, .iconst 0, 1), (47, .istore_n 2, 1), (48, .iload_n 2, 1), (49, .iload_n 1, 1), (50, .if_icmp .ge 20, 3), (53, .aload_n 0, 1), (54, .getfield 137, 3), (57, .ifnull 13, 3)] := dk_use _ _ (by decide +kernel)
theorem dd_X9_beat_2 : dk_R cX9_beat [(60, .aload_n 0, 1), (61, .invokevirtual 226, 3), (64, .iinc 2 1, 3), (67, .goto (-19), 3), (70, .aload_n 0, 1), (71, .invokevirtual 187, 3), (74, .ireturn, 1)] := dk_use _ _ (by decide +kernel)
def fX9_beat_i (i1 : Int32) : Option (Int32 × Int32) := ((fX9_isIn i1 1 300).bind fun x_1 => ((((if x_1 = 0 then some 1 else some 0) : Option (Int32))).bind fun r_6 => ((fX9_start_i r_6 1).bind fun x_7 => (if x_7.1 = 0 then ((fX9_refuse_i x_7.2 1 2).bind fun x_12 => (if x_12.1 = 0 then ((wl (S := Unit) (B := Unit) (fun s_17 => (if i1 ≤ (0 : Int32) then some (.inr ()) else some (.inr ()))) yFuel ()).bind fun b_17 => ((fX9_rest_i).bind fun x_18 => some (0, x_12.2))) else some (0, x_12.2))) else some (0, x_7.2)))))
abbrev hX9_beat : Cond := .code yX9_beat cX9_beat 3 (some .int)
theorem mX9_beat : yM yX9_beat hX9_beat 1 := ⟨u_1437, u_64, by decide +kernel, by decide +kernel, by decide +kernel⟩
set_option maxHeartbeats 4000000 in
set_option maxRecDepth 100000 in
theorem kX9_beat_i (l : Launch) (D : va_G) (cy : Nat → ClassId) (g : Nat) (gth : Int32) (gw : Nat) (gB : Nat) (gK : Nat) (gU : Nat) (gS : Nat) (gbe : Int32) (gwo : Int32) (gta : Int64) (glr : Int32) (glc : Int32) (gti : Int32) (ggo : Int32) (gR : Nat) (gch : Int32) (gD : Nat) (i1 : Int32) {res : Int32 × Int32} (hR : fX9_beat_i i1 = some res) : YM l D cy yX9_beat hX9_beat 6 200 1800 [.ref g, .int i1] [[(g, .inr (11, [.int gth, .ref gw, .ref gB, .ref gK, .ref gU, .ref gS, .int gbe, .int gwo, .long gta, .null, .int glr, .int glc, .int gti, .int ggo, .ref gR, .int gch, .ref gD]))]] (fun v u => v = some (.int res.1) ∧ u = [[(g, .inr (11, [.int res.2, .ref gw, .ref gB, .ref gK, .ref gU, .ref gS, .int gbe, .int gwo, .long gta, .null, .int glr, .int glc, .int gti, .int ggo, .ref gR, .int gch, .ref gD]))]]) := by
  unfold fX9_beat_i at hR
  refine YM.ofI (cc := cX9_beat) (maxL := 3) (ret := (some .int)) (by decide +kernel) rfl (Nat.le_of_ble_eq_true rfl) [(0, .ref g), (1, .int i1)] rfl rfl (fun p e s m args below meth c A H0 Q C hnm ret => ?_)
  refine xr_aload_n (n := 1) (j := 0) C dd_X9_beat_0.1 rfl rfl ?_
  refine xr_iload_n (n := 2) (j := 1) C dd_X9_beat_0.2.1 rfl rfl ?_
  refine xr_iconst (n := 3) (v := 1) C dd_X9_beat_0.2.2.1 rfl rfl ?_
  refine xr_sipush (n := 6) (v := 300) C dd_X9_beat_0.2.2.2.1 rfl rfl ?_
  obtain ⟨x_1, hx_1, hR⟩ := yf_b hR
  refine xr_callSp (n := 9) (As := [.int i1, .int 1, .int 300]) (rest := [.ref g]) C (kX9_isIn l D cy (i1 := i1) (i2 := 1) (i3 := 300) hx_1) mX9_isIn u_1298 u_1299 1 [] [0] rfl (by decide +kernel) rfl rfl rfl rfl (Nat.le_of_ble_eq_true rfl) (Nat.le_of_ble_eq_true rfl) (Nat.le_of_ble_eq_true rfl) (Nat.le_of_ble_eq_true rfl) (Nat.le_of_ble_eq_true rfl) dd_X9_beat_0.2.2.2.2.1 rfl (fun _ _ hp => hp.2) (fun v_2 hp_4 => ?_)
  obtain ⟨rfl, -⟩ := hp_4
  refine xr_st (st' := [.int x_1, .ref g]) rfl ?_
  obtain ⟨r_6, hE_6, hR⟩ := yf_b hR
  have J_6 : X p l e (yR 6 200 1800) s m args below meth c D A H0 3 Q [[(g, .inr (11, [.int gth, .ref gw, .ref gB, .ref gK, .ref gU, .ref gS, .int gbe, .int gwo, .long gta, .null, .int glr, .int glc, .int gti, .int ggo, .ref gR, .int gch, .ref gD]))]] 0 0 [(0, .ref g), (1, .int i1)] 17 [.int r_6, .ref g] := by
    refine xr_iconst (n := 18) (v := 1) C dd_X9_beat_0.2.2.2.2.2.2.2.2.2.1 rfl rfl ?_
    obtain ⟨x_7, hx_7, hR⟩ := yf_b hR
    refine xr_callV (n := 21) (As := [.int r_6, .int 1]) (rest := []) C (kX9_start_i l D cy (g := g) (gth := gth) (gw := gw) (gB := gB) (gK := gK) (gU := gU) (gS := gS) (gbe := gbe) (gwo := gwo) (gta := gta) (glr := glr) (glc := glc) (gti := gti) (ggo := ggo) (gR := gR) (gch := gch) (gD := gD) (i1 := r_6) (i2 := 1) hx_7) mX9_start u_1301 u_1303 u_29 0 rfl rfl 1 [0] [] rfl (by decide +kernel) rfl rfl rfl rfl (Nat.le_of_ble_eq_true rfl) (Nat.le_of_ble_eq_true rfl) (Nat.le_of_ble_eq_true rfl) (Nat.le_of_ble_eq_true rfl) (Nat.le_of_ble_eq_true rfl) dd_X9_beat_0.2.2.2.2.2.2.2.2.2.2.1 rfl (fun v_8 u_9 hp_10 => ?_)
    obtain ⟨rfl, rfl⟩ := hp_10
    refine xr_perm C 1 [0] [] [[(g, .inr (11, [.int x_7.2, .ref gw, .ref gB, .ref gK, .ref gU, .ref gS, .int gbe, .int gwo, .long gta, .null, .int glr, .int glc, .int gti, .int ggo, .ref gR, .int gch, .ref gD]))]] rfl (by decide +kernel) rfl ?_
    refine xr_st (st' := [.int x_7.1]) rfl ?_
    refine xr_if_ne (tgt := 44) (n := 24) C dd_X9_beat_0.2.2.2.2.2.2.2.2.2.2.2.1 rfl rfl (fun c_11 => ?_) (fun c_11 => ?_)
    · replace hR := yf_f c_11 hR
      refine xr_iconst (n := 45) (v := 0) C dd_X9_beat_1.2.2.2.2.2.2.1 rfl rfl ?_
      obtain rfl := Option.some.inj hR
      exact ret 0 ⟨rfl, rfl⟩ (Nat.le_of_ble_eq_true rfl) (Nat.le_of_ble_eq_true rfl) dd_X9_beat_1.2.2.2.2.2.2.2.1
    · replace hR := yf_t c_11 hR
      refine xr_aload_n (n := 25) (j := 0) C dd_X9_beat_0.2.2.2.2.2.2.2.2.2.2.2.2.1 rfl rfl ?_
      refine xr_aload_n (n := 26) (j := 0) C dd_X9_beat_0.2.2.2.2.2.2.2.2.2.2.2.2.2.1 rfl rfl ?_
      refine xr_get (n := 29) C 0 rfl rfl 9 (by decide) in_X9 u_1246 rfl (v := .null) rfl dd_X9_beat_0.2.2.2.2.2.2.2.2.2.2.2.2.2.2.1 rfl ?_
      refine xr_ifnonnullN (n := 32) C dd_X9_beat_0.2.2.2.2.2.2.2.2.2.2.2.2.2.2.2.1 rfl ?_
      refine xr_iconst (n := 33) (v := 1) C dd_X9_beat_1.1 rfl rfl ?_
      refine xr_goto (tgt := 37) C dd_X9_beat_1.2.1 rfl ?_
      refine xr_iconst (n := 38) (v := 2) C dd_X9_beat_1.2.2.2.1 rfl rfl ?_
      obtain ⟨x_12, hx_12, hR⟩ := yf_b hR
      refine xr_callV (n := 41) (As := [.int 1, .int 2]) (rest := []) C (kX9_refuse_i l D cy (g := g) (gth := x_7.2) (gw := gw) (gB := gB) (gK := gK) (gU := gU) (gS := gS) (gbe := gbe) (gwo := gwo) (gta := gta) (glr := glr) (glc := glc) (gti := gti) (ggo := ggo) (gR := gR) (gch := gch) (gD := gD) (i1 := 1) (i2 := 2) hx_12) mX9_refuse u_1305 u_1307 u_30 0 rfl rfl 1 [0] [] rfl (by decide +kernel) rfl rfl rfl rfl (Nat.le_of_ble_eq_true rfl) (Nat.le_of_ble_eq_true rfl) (Nat.le_of_ble_eq_true rfl) (Nat.le_of_ble_eq_true rfl) (Nat.le_of_ble_eq_true rfl) dd_X9_beat_1.2.2.2.2.1 rfl (fun v_13 u_14 hp_15 => ?_)
      obtain ⟨rfl, rfl⟩ := hp_15
      refine xr_perm C 1 [0] [] [[(g, .inr (11, [.int x_12.2, .ref gw, .ref gB, .ref gK, .ref gU, .ref gS, .int gbe, .int gwo, .long gta, .null, .int glr, .int glc, .int gti, .int ggo, .ref gR, .int gch, .ref gD]))]] rfl (by decide +kernel) rfl ?_
      refine xr_st (st' := [.int x_12.1]) rfl ?_
      refine xr_if_eq (tgt := 46) (n := 44) C dd_X9_beat_1.2.2.2.2.2.1 rfl rfl (fun c_16 => ?_) (fun c_16 => ?_)
      · replace hR := yf_t c_16 hR
        refine xr_iconst (n := 47) (v := 0) C dd_X9_beat_1.2.2.2.2.2.2.2.2.1 rfl rfl ?_
        refine xr_istore_n (n := 48) C [(2, .int 0), (0, .ref g), (1, .int i1)] dd_X9_beat_1.2.2.2.2.2.2.2.2.2.1 (by decide) rfl rfl ?_
        refine xr_lv (lv' := [(0, .ref g), (1, .int i1), (2, .int 0)]) [1, 2, 0] rfl ?_
        obtain ⟨b_17, hb_17, hR⟩ := yf_b hR
        have K_17 : X p l e (yR 6 200 1800) s m args below meth c D A H0 3 Q [[(g, .inr (11, [.int x_12.2, .ref gw, .ref gB, .ref gK, .ref gU, .ref gS, .int gbe, .int gwo, .long gta, .null, .int glr, .int glc, .int gti, .int ggo, .ref gR, .int gch, .ref gD]))]] 0 0 [(0, .ref g)] 70 [] := by
          refine xr_aload_n (n := 71) (j := 0) C dd_X9_beat_2.2.2.2.2.1 rfl rfl ?_
          obtain ⟨x_18, hx_18, hR⟩ := yf_b hR
          obtain rfl := Option.some.inj (show some ((0) : Int32) = some x_18 from hx_18)
          refine xr_callVp (n := 74) (As := []) (rest := []) C (kX9_rest_i l D cy (g := g) (gth := x_12.2) (gw := gw) (gB := gB) (gK := gK) (gU := gU) (gS := gS) (gbe := gbe) (gwo := gwo) (gta := gta) (glr := glr) (glc := glc) (gti := gti) (ggo := ggo) (gR := gR) (gch := gch) (gD := gD) hx_18) mX9_left_ u_1418 u_1420 u_35 0 rfl rfl 1 [0] [] rfl (by decide +kernel) rfl rfl rfl rfl (Nat.le_of_ble_eq_true rfl) (Nat.le_of_ble_eq_true rfl) (Nat.le_of_ble_eq_true rfl) (Nat.le_of_ble_eq_true rfl) (Nat.le_of_ble_eq_true rfl) dd_X9_beat_2.2.2.2.2.2.1 rfl (fun _ _ hp => hp.2) (fun v_19 hp_21 => ?_)
          obtain ⟨rfl, -⟩ := hp_21
          refine xr_st (st' := [.int 0]) rfl ?_
          obtain rfl := Option.some.inj hR
          exact ret 0 ⟨rfl, rfl⟩ (Nat.le_of_ble_eq_true rfl) (Nat.le_of_ble_eq_true rfl) dd_X9_beat_2.2.2.2.2.2.2.1
        refine y_loop (P := fun (s_17 : Unit) => X p l e (yR 6 200 1800) s m args below meth c D A H0 3 Q [[(g, .inr (11, [.int x_12.2, .ref gw, .ref gB, .ref gK, .ref gU, .ref gS, .int gbe, .int gwo, .long gta, .null, .int glr, .int glc, .int gti, .int ggo, .ref gR, .int gch, .ref gD]))]] 0 0 [(0, .ref g), (1, .int i1), (2, .int 0)] 48 []) ?_ _ () hb_17
        intro s_17 o_17 ho_17 hk_17 hx_17
        refine xr_iload_n (n := 49) (j := 2) C dd_X9_beat_1.2.2.2.2.2.2.2.2.2.2.1 rfl rfl ?_
        refine xr_iload_n (n := 50) (j := 1) C dd_X9_beat_1.2.2.2.2.2.2.2.2.2.2.2.1 rfl rfl ?_
        refine xr_icmp_ge (tgt := 70) (n := 53) C dd_X9_beat_1.2.2.2.2.2.2.2.2.2.2.2.2.1 rfl rfl (fun c_22 => ?_) (fun c_22 => ?_)
        · replace ho_17 := yf_t c_22 ho_17
          refine xr_lv (lv' := [(0, .ref g)]) [0] rfl ?_
          have e_23 := hx_17 _ (Option.some.inj ho_17).symm
          subst e_23
          exact K_17
        · replace ho_17 := yf_f c_22 ho_17
          refine xr_aload_n (n := 54) (j := 0) C dd_X9_beat_1.2.2.2.2.2.2.2.2.2.2.2.2.2.1 rfl rfl ?_
          refine xr_get (n := 57) C 0 rfl rfl 9 (by decide) in_X9 u_1246 rfl (v := .null) rfl dd_X9_beat_1.2.2.2.2.2.2.2.2.2.2.2.2.2.2.1 rfl ?_
          refine xr_ifnullN (tgt := 70) C dd_X9_beat_1.2.2.2.2.2.2.2.2.2.2.2.2.2.2.2.1 rfl ?_
          refine xr_lv (lv' := [(0, .ref g)]) [0] rfl ?_
          have e_24 := hx_17 _ (Option.some.inj ho_17).symm
          subst e_24
          exact K_17
      · replace hR := yf_f c_16 hR
        refine xr_iconst (n := 45) (v := 0) C dd_X9_beat_1.2.2.2.2.2.2.1 rfl rfl ?_
        obtain rfl := Option.some.inj hR
        exact ret 0 ⟨rfl, rfl⟩ (Nat.le_of_ble_eq_true rfl) (Nat.le_of_ble_eq_true rfl) dd_X9_beat_1.2.2.2.2.2.2.2.1
  refine xr_if_ne (tgt := 16) (n := 12) C dd_X9_beat_0.2.2.2.2.2.1 rfl rfl (fun c_25 => ?_) (fun c_25 => ?_)
  · replace hE_6 := yf_f c_25 hE_6
    refine xr_iconst (n := 17) (v := 0) C dd_X9_beat_0.2.2.2.2.2.2.2.2.1 rfl rfl ?_
    have e_26 := Option.some.inj hE_6
    subst e_26
    exact J_6
  · replace hE_6 := yf_t c_25 hE_6
    refine xr_iconst (n := 13) (v := 1) C dd_X9_beat_0.2.2.2.2.2.2.1 rfl rfl ?_
    refine xr_goto (tgt := 17) C dd_X9_beat_0.2.2.2.2.2.2.2.1 rfl ?_
    have e_27 := Option.some.inj hE_6
    subst e_27
    exact J_6
def fX9_beat_r (gbe : Int32) (gta : Int64) (glr : Int32) (glc : Int32) (gti : Int32) (ggo : Int32) (gnr : Int32) (gnk : Int32) (gnc : Int32) (gng : Int32) (gns : Int32) (gnan : Nat) (gnak : Nat) (gnaG : Nat → Nat → Int32) (gnbn : Nat) (gnbk : Nat) (gnbG : Nat → Nat → Int32) (gBG : Nat → Nat → Int32) (gUG : Nat → Nat → Int32) (gSG : Nat → Nat → Int32) (gDn : Nat) (gDk : Nat) (gDG : Nat → Nat → Int32) (i1 : Int32) : Option ((Int32 × Int32 × Int32 × Int64 × Int32 × Int32 × (Nat → Nat → Int32) × (Nat → Nat → Int32) × Nat × Nat × (Nat → Nat → Int32)) ⊕ (Int32 × Int32 × Int32 × Int64 × Int32 × Int32 × Int32 × (Nat → Nat → Int32) × (Nat → Nat → Int32) × Nat × Nat × (Nat → Nat → Int32))) := ((fX9_isIn i1 1 300).bind fun x_1 => ((((if x_1 = 0 then some 1 else some 0) : Option (Int32))).bind fun r_6 => ((fX9_start_r r_6 1).bind fun x_7 => (if x_7.1 = 0 then ((fX9_refuse_r x_7.2 0 2).bind fun x_12 => (if x_12.1 = 0 then ((wl (S := Int32 × Int32 × Int64 × Int32 × Int32 × (Nat → Nat → Int32) × (Nat → Nat → Int32) × Nat × (Nat → Nat → Int32) × Nat × Nat × Nat) (B := (Int32 × Int32 × Int64 × Int32 × Int32 × (Nat → Nat → Int32) × (Nat → Nat → Int32) × Nat × (Nat → Nat → Int32) × Nat × Nat × Nat) ⊕ ((Int32 × Int32 × Int32 × Int64 × Int32 × Int32 × (Nat → Nat → Int32) × (Nat → Nat → Int32) × Nat × Nat × (Nat → Nat → Int32)) ⊕ (Int32 × Int32 × Int32 × Int64 × Int32 × Int32 × Int32 × (Nat → Nat → Int32) × (Nat → Nat → Int32) × Nat × Nat × (Nat → Nat → Int32)))) (fun s_17 => (if s_17.2.2.2.2.2.2.2.2.2.2.1 ≤ 200 ∧ s_17.2.2.2.2.2.2.2.2.2.2.2 ≤ 1800 then (if i1 ≤ s_17.1 then some (.inr (.inl (s_17.1, s_17.2.1, s_17.2.2.1, s_17.2.2.2.1, s_17.2.2.2.2.1, s_17.2.2.2.2.2.1, s_17.2.2.2.2.2.2.1, s_17.2.2.2.2.2.2.2.1, s_17.2.2.2.2.2.2.2.2.1, s_17.2.2.2.2.2.2.2.2.2.1, s_17.2.2.2.2.2.2.2.2.2.2.1, s_17.2.2.2.2.2.2.2.2.2.2.2))) else ((fX9_one_ s_17.2.1 s_17.2.2.1 glr glc s_17.2.2.2.1 s_17.2.2.2.2.1 gnr gnk gnc gng gns gnan gnak gnaG gnbn gnbk gnbG gBG s_17.2.2.2.2.2.1 s_17.2.2.2.2.2.2.1 s_17.2.2.2.2.2.2.2.1 s_17.2.2.2.2.2.2.2.2.2.1 s_17.2.2.2.2.2.2.2.2.1).bind fun x_26 => (if s_17.2.2.2.2.2.2.2.2.2.2.1 + (if s_17.2.2.2.1 = 0 then 10 else 0) ≤ 200 ∧ s_17.2.2.2.2.2.2.2.2.2.2.2 + (if s_17.2.2.2.1 = 0 then 90 else 0) ≤ 1800 then ybr x_26 (fun w_35 => some (.inl (s_17.1 + 1, w_35.1, w_35.2.1, w_35.2.2.1, w_35.2.2.2.1, w_35.2.2.2.2.1, w_35.2.2.2.2.2.1, w_35.2.2.2.2.2.2.1, w_35.2.2.2.2.2.2.2.2, w_35.2.2.2.2.2.2.2.1, s_17.2.2.2.2.2.2.2.2.2.2.1 + (if s_17.2.2.2.1 = 0 then 10 else 0), s_17.2.2.2.2.2.2.2.2.2.2.2 + (if s_17.2.2.2.1 = 0 then 90 else 0)))) (fun w_35 => (if i1 ≤ (s_17.1 + 1) then ((fX9_rest_i).bind fun x_37 => some (.inr (.inr (.inr (0, x_12.2, w_35.1, w_35.2.1, w_35.2.2.1, w_35.2.2.2.1, w_35.2.2.2.2.1, w_35.2.2.2.2.2.1, w_35.2.2.2.2.2.2.1, w_35.2.2.2.2.2.2.2.1, w_35.2.2.2.2.2.2.2.2.1, w_35.2.2.2.2.2.2.2.2.2))))) else ((fX9_rest_i).bind fun x_42 => some (.inr (.inr (.inr (0, x_12.2, w_35.1, w_35.2.1, w_35.2.2.1, w_35.2.2.2.1, w_35.2.2.2.2.1, w_35.2.2.2.2.2.1, w_35.2.2.2.2.2.2.1, w_35.2.2.2.2.2.2.2.1, w_35.2.2.2.2.2.2.2.2.1, w_35.2.2.2.2.2.2.2.2.2))))))) else none))) else none)) yFuel (0, gbe, gta, gti, ggo, gUG, gSG, gDn, gDG, gDk, 0, 0)).bind fun b_17 => ybr b_17 (fun z_17 => (if z_17.2.2.2.2.2.2.2.2.2.2.1 ≤ 200 ∧ z_17.2.2.2.2.2.2.2.2.2.2.2 ≤ 1800 then ((fX9_rest_r glr glc z_17.2.2.2.1 z_17.2.2.2.2.1 gnr gnk gnc gng gns gnan gnak gnaG gnbn gnbk gnbG).bind fun x_19 => some (.inl (x_19, x_12.2, z_17.2.1, z_17.2.2.1, z_17.2.2.2.1, z_17.2.2.2.2.1, z_17.2.2.2.2.2.1, z_17.2.2.2.2.2.2.1, z_17.2.2.2.2.2.2.2.1, z_17.2.2.2.2.2.2.2.2.2.1, z_17.2.2.2.2.2.2.2.2.1))) else none)) (fun r => some r)) else some (.inl (0, x_12.2, gbe, gta, gti, ggo, gUG, gSG, gDn, gDk, gDG)))) else some (.inl (0, x_7.2, gbe, gta, gti, ggo, gUG, gSG, gDn, gDk, gDG))))))
set_option maxHeartbeats 4000000 in
set_option maxRecDepth 100000 in
theorem kX9_beat_r (l : Launch) (D : va_G) (cy : Nat → ClassId) (g : Nat) (gth : Int32) (gw : Nat) (gB : Nat) (gK : Nat) (gU : Nat) (gS : Nat) (gbe : Int32) (gwo : Int32) (gta : Int64) (gn : Nat) (glr : Int32) (glc : Int32) (gti : Int32) (ggo : Int32) (gR : Nat) (gch : Int32) (gD : Nat) (gnr : Int32) (gnk : Int32) (gnc : Int32) (gng : Int32) (gns : Int32) (gna : Nat) (gnb : Nat) (gnad : Nat → Nat) (gnan : Nat) (gnak : Nat) (gnaG : Nat → Nat → Int32) (gnbd : Nat → Nat) (gnbn : Nat) (gnbk : Nat) (gnbG : Nat → Nat → Int32) (gBd : Nat → Nat) (gBG : Nat → Nat → Int32) (gUd : Nat → Nat) (gUG : Nat → Nat → Int32) (gSd : Nat → Nat) (gSG : Nat → Nat → Int32) (gDd : Nat → Nat) (gDn : Nat) (gDk : Nat) (gDG : Nat → Nat → Int32) (i1 : Int32) {res : (Int32 × Int32 × Int32 × Int64 × Int32 × Int32 × (Nat → Nat → Int32) × (Nat → Nat → Int32) × Nat × Nat × (Nat → Nat → Int32)) ⊕ (Int32 × Int32 × Int32 × Int64 × Int32 × Int32 × Int32 × (Nat → Nat → Int32) × (Nat → Nat → Int32) × Nat × Nat × (Nat → Nat → Int32))} (hR : fX9_beat_r gbe gta glr glc gti ggo gnr gnk gnc gng gns gnan gnak gnaG gnbn gnbk gnbG gBG gUG gSG gDn gDk gDG i1 = some res) : YM l D cy yX9_beat hX9_beat 6 200 1800 [.ref g, .int i1] [[(g, .inr (11, [.int gth, .ref gw, .ref gB, .ref gK, .ref gU, .ref gS, .int gbe, .int gwo, .long gta, .ref gn, .int glr, .int glc, .int gti, .int ggo, .ref gR, .int gch, .ref gD]))], [(gn, .inr (10, [.int gnr, .int gnk, .int gnc, .int gng, .int gns, .ref gna, .ref gnb]))], [(gna, .inl (cy 3, gnan, .inr (.inr (.inr (.inr (yad gnad))))))], xg_rows gnad gnan (cy 1) gnak gnaG, [(gnb, .inl (cy 3, gnbn, .inr (.inr (.inr (.inr (yad gnbd))))))], xg_rows gnbd gnbn (cy 1) gnbk gnbG, [(gB, .inl (cy 4, 5, .inr (.inr (.inr (.inr (yad gBd))))))], xg_rows gBd 5 (cy 2) 5 gBG, [(gU, .inl (cy 3, 5, .inr (.inr (.inr (.inr (yad gUd))))))], xg_rows gUd 5 (cy 1) 5 gUG, [(gS, .inl (cy 3, 5, .inr (.inr (.inr (.inr (yad gSd))))))], xg_rows gSd 5 (cy 1) 5 gSG, [(gD, .inl (cy 3, gDn, .inr (.inr (.inr (.inr (yad gDd))))))], xg_rows gDd gDn (cy 1) gDk gDG] (fun v u => (∃ r, res = .inl r ∧ ∃ gD : Nat, ∃ gDd : Nat → Nat, v = some (.int r.1) ∧ u = [[(g, .inr (11, [.int r.2.1, .ref gw, .ref gB, .ref gK, .ref gU, .ref gS, .int r.2.2.1, .int gwo, .long r.2.2.2.1, .ref gn, .int glr, .int glc, .int r.2.2.2.2.1, .int r.2.2.2.2.2.1, .ref gR, .int gch, .ref gD]))], [(gn, .inr (10, [.int gnr, .int gnk, .int gnc, .int gng, .int gns, .ref gna, .ref gnb]))], [(gna, .inl (cy 3, gnan, .inr (.inr (.inr (.inr (yad gnad))))))], xg_rows gnad gnan (cy 1) gnak gnaG, [(gnb, .inl (cy 3, gnbn, .inr (.inr (.inr (.inr (yad gnbd))))))], xg_rows gnbd gnbn (cy 1) gnbk gnbG, [(gB, .inl (cy 4, 5, .inr (.inr (.inr (.inr (yad gBd))))))], xg_rows gBd 5 (cy 2) 5 gBG, [(gU, .inl (cy 3, 5, .inr (.inr (.inr (.inr (yad gUd))))))], xg_rows gUd 5 (cy 1) 5 r.2.2.2.2.2.2.1, [(gS, .inl (cy 3, 5, .inr (.inr (.inr (.inr (yad gSd))))))], xg_rows gSd 5 (cy 1) 5 r.2.2.2.2.2.2.2.1, [(gD, .inl (cy 3, r.2.2.2.2.2.2.2.2.1, .inr (.inr (.inr (.inr (yad gDd))))))], xg_rows gDd r.2.2.2.2.2.2.2.2.1 (cy 1) r.2.2.2.2.2.2.2.2.2.1 r.2.2.2.2.2.2.2.2.2.2]) ∨ (∃ r, res = .inr r ∧ ∃ gD : Nat, ∃ gDd : Nat → Nat, v = some (.int r.1) ∧ u = [[(g, .inr (11, [.int r.2.1, .ref gw, .ref gB, .ref gK, .ref gU, .ref gS, .int r.2.2.1, .int gwo, .long r.2.2.2.1, .null, .int glr, .int glc, .int r.2.2.2.2.1, .int r.2.2.2.2.2.1, .ref gD, .int r.2.2.2.2.2.2.1, .ref gD]))], [(gB, .inl (cy 4, 5, .inr (.inr (.inr (.inr (yad gBd))))))], xg_rows gBd 5 (cy 2) 5 gBG, [(gU, .inl (cy 3, 5, .inr (.inr (.inr (.inr (yad gUd))))))], xg_rows gUd 5 (cy 1) 5 r.2.2.2.2.2.2.2.1, [(gS, .inl (cy 3, 5, .inr (.inr (.inr (.inr (yad gSd))))))], xg_rows gSd 5 (cy 1) 5 r.2.2.2.2.2.2.2.2.1, [(gD, .inl (cy 3, r.2.2.2.2.2.2.2.2.2.1, .inr (.inr (.inr (.inr (yad gDd))))))], xg_rows gDd r.2.2.2.2.2.2.2.2.2.1 (cy 1) r.2.2.2.2.2.2.2.2.2.2.1 r.2.2.2.2.2.2.2.2.2.2.2])) := by
  unfold fX9_beat_r at hR
  refine YM.ofI (cc := cX9_beat) (maxL := 3) (ret := (some .int)) (by decide +kernel) rfl (Nat.le_of_ble_eq_true rfl) [(0, .ref g), (1, .int i1)] rfl rfl (fun p e s m args below meth c A H0 Q C hnm ret => ?_)
  refine xr_aload_n (n := 1) (j := 0) C dd_X9_beat_0.1 rfl rfl ?_
  refine xr_iload_n (n := 2) (j := 1) C dd_X9_beat_0.2.1 rfl rfl ?_
  refine xr_iconst (n := 3) (v := 1) C dd_X9_beat_0.2.2.1 rfl rfl ?_
  refine xr_sipush (n := 6) (v := 300) C dd_X9_beat_0.2.2.2.1 rfl rfl ?_
  obtain ⟨x_1, hx_1, hR⟩ := yf_b hR
  refine xr_callSp (n := 9) (As := [.int i1, .int 1, .int 300]) (rest := [.ref g]) C (kX9_isIn l D cy (i1 := i1) (i2 := 1) (i3 := 300) hx_1) mX9_isIn u_1298 u_1299 14 [] [0, 1, 2, 3, 4, 5, 6, 7, 8, 9, 10, 11, 12, 13] rfl (by decide +kernel) rfl rfl rfl rfl (Nat.le_of_ble_eq_true rfl) (Nat.le_of_ble_eq_true rfl) (Nat.le_of_ble_eq_true rfl) (Nat.le_of_ble_eq_true rfl) (Nat.le_of_ble_eq_true rfl) dd_X9_beat_0.2.2.2.2.1 rfl (fun _ _ hp => hp.2) (fun v_2 hp_4 => ?_)
  obtain ⟨rfl, -⟩ := hp_4
  refine xr_st (st' := [.int x_1, .ref g]) rfl ?_
  obtain ⟨r_6, hE_6, hR⟩ := yf_b hR
  have J_6 : X p l e (yR 6 200 1800) s m args below meth c D A H0 3 Q [[(g, .inr (11, [.int gth, .ref gw, .ref gB, .ref gK, .ref gU, .ref gS, .int gbe, .int gwo, .long gta, .ref gn, .int glr, .int glc, .int gti, .int ggo, .ref gR, .int gch, .ref gD]))], [(gn, .inr (10, [.int gnr, .int gnk, .int gnc, .int gng, .int gns, .ref gna, .ref gnb]))], [(gna, .inl (cy 3, gnan, .inr (.inr (.inr (.inr (yad gnad))))))], xg_rows gnad gnan (cy 1) gnak gnaG, [(gnb, .inl (cy 3, gnbn, .inr (.inr (.inr (.inr (yad gnbd))))))], xg_rows gnbd gnbn (cy 1) gnbk gnbG, [(gB, .inl (cy 4, 5, .inr (.inr (.inr (.inr (yad gBd))))))], xg_rows gBd 5 (cy 2) 5 gBG, [(gU, .inl (cy 3, 5, .inr (.inr (.inr (.inr (yad gUd))))))], xg_rows gUd 5 (cy 1) 5 gUG, [(gS, .inl (cy 3, 5, .inr (.inr (.inr (.inr (yad gSd))))))], xg_rows gSd 5 (cy 1) 5 gSG, [(gD, .inl (cy 3, gDn, .inr (.inr (.inr (.inr (yad gDd))))))], xg_rows gDd gDn (cy 1) gDk gDG] 0 0 [(0, .ref g), (1, .int i1)] 17 [.int r_6, .ref g] := by
    refine xr_iconst (n := 18) (v := 1) C dd_X9_beat_0.2.2.2.2.2.2.2.2.2.1 rfl rfl ?_
    obtain ⟨x_7, hx_7, hR⟩ := yf_b hR
    refine xr_callV (n := 21) (As := [.int r_6, .int 1]) (rest := []) C (kX9_start_r l D cy (g := g) (gth := gth) (gw := gw) (gB := gB) (gK := gK) (gU := gU) (gS := gS) (gbe := gbe) (gwo := gwo) (gta := gta) (gn := gn) (glr := glr) (glc := glc) (gti := gti) (ggo := ggo) (gR := gR) (gch := gch) (gD := gD) (i1 := r_6) (i2 := 1) hx_7) mX9_start u_1301 u_1303 u_29 0 rfl rfl 14 [0] [1, 2, 3, 4, 5, 6, 7, 8, 9, 10, 11, 12, 13] rfl (by decide +kernel) rfl rfl rfl rfl (Nat.le_of_ble_eq_true rfl) (Nat.le_of_ble_eq_true rfl) (Nat.le_of_ble_eq_true rfl) (Nat.le_of_ble_eq_true rfl) (Nat.le_of_ble_eq_true rfl) dd_X9_beat_0.2.2.2.2.2.2.2.2.2.2.1 rfl (fun v_8 u_9 hp_10 => ?_)
    obtain ⟨rfl, rfl⟩ := hp_10
    refine xr_perm C 14 [0, 1, 2, 3, 4, 5, 6, 7, 8, 9, 10, 11, 12, 13] [] [[(g, .inr (11, [.int x_7.2, .ref gw, .ref gB, .ref gK, .ref gU, .ref gS, .int gbe, .int gwo, .long gta, .ref gn, .int glr, .int glc, .int gti, .int ggo, .ref gR, .int gch, .ref gD]))], [(gn, .inr (10, [.int gnr, .int gnk, .int gnc, .int gng, .int gns, .ref gna, .ref gnb]))], [(gna, .inl (cy 3, gnan, .inr (.inr (.inr (.inr (yad gnad))))))], xg_rows gnad gnan (cy 1) gnak gnaG, [(gnb, .inl (cy 3, gnbn, .inr (.inr (.inr (.inr (yad gnbd))))))], xg_rows gnbd gnbn (cy 1) gnbk gnbG, [(gB, .inl (cy 4, 5, .inr (.inr (.inr (.inr (yad gBd))))))], xg_rows gBd 5 (cy 2) 5 gBG, [(gU, .inl (cy 3, 5, .inr (.inr (.inr (.inr (yad gUd))))))], xg_rows gUd 5 (cy 1) 5 gUG, [(gS, .inl (cy 3, 5, .inr (.inr (.inr (.inr (yad gSd))))))], xg_rows gSd 5 (cy 1) 5 gSG, [(gD, .inl (cy 3, gDn, .inr (.inr (.inr (.inr (yad gDd))))))], xg_rows gDd gDn (cy 1) gDk gDG] rfl (by decide +kernel) rfl ?_
    refine xr_st (st' := [.int x_7.1]) rfl ?_
    refine xr_if_ne (tgt := 44) (n := 24) C dd_X9_beat_0.2.2.2.2.2.2.2.2.2.2.2.1 rfl rfl (fun c_11 => ?_) (fun c_11 => ?_)
    · replace hR := yf_f c_11 hR
      refine xr_iconst (n := 45) (v := 0) C dd_X9_beat_1.2.2.2.2.2.2.1 rfl rfl ?_
      obtain rfl := Option.some.inj hR
      exact ret 0 (Or.inl ⟨_, rfl, gD, gDd, rfl, rfl⟩) (Nat.le_of_ble_eq_true rfl) (Nat.le_of_ble_eq_true rfl) dd_X9_beat_1.2.2.2.2.2.2.2.1
    · replace hR := yf_t c_11 hR
      refine xr_aload_n (n := 25) (j := 0) C dd_X9_beat_0.2.2.2.2.2.2.2.2.2.2.2.2.1 rfl rfl ?_
      refine xr_aload_n (n := 26) (j := 0) C dd_X9_beat_0.2.2.2.2.2.2.2.2.2.2.2.2.2.1 rfl rfl ?_
      refine xr_get (n := 29) C 0 rfl rfl 9 (by decide) in_X9 u_1246 rfl (v := .ref gn) rfl dd_X9_beat_0.2.2.2.2.2.2.2.2.2.2.2.2.2.2.1 rfl ?_
      refine xr_ifnonnull (tgt := 36) C dd_X9_beat_0.2.2.2.2.2.2.2.2.2.2.2.2.2.2.2.1 rfl ?_
      refine xr_iconst (n := 37) (v := 0) C dd_X9_beat_1.2.2.1 rfl rfl ?_
      refine xr_iconst (n := 38) (v := 2) C dd_X9_beat_1.2.2.2.1 rfl rfl ?_
      obtain ⟨x_12, hx_12, hR⟩ := yf_b hR
      refine xr_callV (n := 41) (As := [.int 0, .int 2]) (rest := []) C (kX9_refuse_r l D cy (g := g) (gth := x_7.2) (gw := gw) (gB := gB) (gK := gK) (gU := gU) (gS := gS) (gbe := gbe) (gwo := gwo) (gta := gta) (gn := gn) (glr := glr) (glc := glc) (gti := gti) (ggo := ggo) (gR := gR) (gch := gch) (gD := gD) (i1 := 0) (i2 := 2) hx_12) mX9_refuse u_1305 u_1307 u_30 0 rfl rfl 14 [0] [1, 2, 3, 4, 5, 6, 7, 8, 9, 10, 11, 12, 13] rfl (by decide +kernel) rfl rfl rfl rfl (Nat.le_of_ble_eq_true rfl) (Nat.le_of_ble_eq_true rfl) (Nat.le_of_ble_eq_true rfl) (Nat.le_of_ble_eq_true rfl) (Nat.le_of_ble_eq_true rfl) dd_X9_beat_1.2.2.2.2.1 rfl (fun v_13 u_14 hp_15 => ?_)
      obtain ⟨rfl, rfl⟩ := hp_15
      refine xr_perm C 14 [0, 1, 2, 3, 4, 5, 6, 7, 8, 9, 10, 11, 12, 13] [] [[(g, .inr (11, [.int x_12.2, .ref gw, .ref gB, .ref gK, .ref gU, .ref gS, .int gbe, .int gwo, .long gta, .ref gn, .int glr, .int glc, .int gti, .int ggo, .ref gR, .int gch, .ref gD]))], [(gn, .inr (10, [.int gnr, .int gnk, .int gnc, .int gng, .int gns, .ref gna, .ref gnb]))], [(gna, .inl (cy 3, gnan, .inr (.inr (.inr (.inr (yad gnad))))))], xg_rows gnad gnan (cy 1) gnak gnaG, [(gnb, .inl (cy 3, gnbn, .inr (.inr (.inr (.inr (yad gnbd))))))], xg_rows gnbd gnbn (cy 1) gnbk gnbG, [(gB, .inl (cy 4, 5, .inr (.inr (.inr (.inr (yad gBd))))))], xg_rows gBd 5 (cy 2) 5 gBG, [(gU, .inl (cy 3, 5, .inr (.inr (.inr (.inr (yad gUd))))))], xg_rows gUd 5 (cy 1) 5 gUG, [(gS, .inl (cy 3, 5, .inr (.inr (.inr (.inr (yad gSd))))))], xg_rows gSd 5 (cy 1) 5 gSG, [(gD, .inl (cy 3, gDn, .inr (.inr (.inr (.inr (yad gDd))))))], xg_rows gDd gDn (cy 1) gDk gDG] rfl (by decide +kernel) rfl ?_
      refine xr_st (st' := [.int x_12.1]) rfl ?_
      refine xr_if_eq (tgt := 46) (n := 44) C dd_X9_beat_1.2.2.2.2.2.1 rfl rfl (fun c_16 => ?_) (fun c_16 => ?_)
      · replace hR := yf_t c_16 hR
        refine xr_iconst (n := 47) (v := 0) C dd_X9_beat_1.2.2.2.2.2.2.2.2.1 rfl rfl ?_
        refine xr_istore_n (n := 48) C [(2, .int 0), (0, .ref g), (1, .int i1)] dd_X9_beat_1.2.2.2.2.2.2.2.2.2.1 (by decide) rfl rfl ?_
        refine xr_lv (lv' := [(0, .ref g), (1, .int i1), (2, .int 0)]) [1, 2, 0] rfl ?_
        obtain ⟨b_17, hb_17, hR⟩ := yf_b hR
        have K_17 : ∀ z_17, b_17 = .inl z_17 → ∀ a0_17 : Nat, ∀ a1_17 : Nat → Nat, X p l e (yR 6 200 1800) s m args below meth c D A H0 3 Q [[(g, .inr (11, [.int x_12.2, .ref gw, .ref gB, .ref gK, .ref gU, .ref gS, .int z_17.2.1, .int gwo, .long z_17.2.2.1, .ref gn, .int glr, .int glc, .int z_17.2.2.2.1, .int z_17.2.2.2.2.1, .ref gR, .int gch, .ref a0_17]))], [(gn, .inr (10, [.int gnr, .int gnk, .int gnc, .int gng, .int gns, .ref gna, .ref gnb]))], [(gna, .inl (cy 3, gnan, .inr (.inr (.inr (.inr (yad gnad))))))], xg_rows gnad gnan (cy 1) gnak gnaG, [(gnb, .inl (cy 3, gnbn, .inr (.inr (.inr (.inr (yad gnbd))))))], xg_rows gnbd gnbn (cy 1) gnbk gnbG, [(gB, .inl (cy 4, 5, .inr (.inr (.inr (.inr (yad gBd))))))], xg_rows gBd 5 (cy 2) 5 gBG, [(gU, .inl (cy 3, 5, .inr (.inr (.inr (.inr (yad gUd))))))], xg_rows gUd 5 (cy 1) 5 z_17.2.2.2.2.2.1, [(gS, .inl (cy 3, 5, .inr (.inr (.inr (.inr (yad gSd))))))], xg_rows gSd 5 (cy 1) 5 z_17.2.2.2.2.2.2.1, [(a0_17, .inl (cy 3, z_17.2.2.2.2.2.2.2.1, .inr (.inr (.inr (.inr (yad a1_17))))))], xg_rows a1_17 z_17.2.2.2.2.2.2.2.1 (cy 1) z_17.2.2.2.2.2.2.2.2.2.1 z_17.2.2.2.2.2.2.2.2.1] z_17.2.2.2.2.2.2.2.2.2.2.1 z_17.2.2.2.2.2.2.2.2.2.2.2 [(0, .ref g)] 70 [] := by
          intro z_17 e_17; subst e_17; replace hR := ybr_l hR
          intro a0_17 a1_17
          obtain ⟨g_18, hR⟩ := yf_g hR
          refine xr_aload_n (n := 71) (j := 0) C dd_X9_beat_2.2.2.2.2.1 rfl rfl ?_
          obtain ⟨x_19, hx_19, hR⟩ := yf_b hR
          refine xr_callVp (n := 74) (As := []) (rest := []) C (kX9_rest_r l D cy (g := g) (gth := x_12.2) (gw := gw) (gB := gB) (gK := gK) (gU := gU) (gS := gS) (gbe := z_17.2.1) (gwo := gwo) (gta := z_17.2.2.1) (gn := gn) (glr := glr) (glc := glc) (gti := z_17.2.2.2.1) (ggo := z_17.2.2.2.2.1) (gR := gR) (gch := gch) (gD := a0_17) (gnr := gnr) (gnk := gnk) (gnc := gnc) (gng := gng) (gns := gns) (gna := gna) (gnb := gnb) (gnad := gnad) (gnan := gnan) (gnak := gnak) (gnaG := gnaG) (gnbd := gnbd) (gnbn := gnbn) (gnbk := gnbk) (gnbG := gnbG) hx_19) mX9_left_ u_1418 u_1420 u_35 0 rfl rfl 14 [0, 1, 2, 3, 4, 5] [6, 7, 8, 9, 10, 11, 12, 13] rfl (by decide +kernel) rfl rfl rfl rfl (Nat.le_of_ble_eq_true rfl) (Nat.le_of_ble_eq_true rfl) (Nat.le_of_ble_eq_true rfl) g_18.1 g_18.2 dd_X9_beat_2.2.2.2.2.2.1 rfl (fun _ _ hp => hp.2) (fun v_20 hp_22 => ?_)
          obtain ⟨rfl, -⟩ := hp_22
          refine xr_st (st' := [.int x_19]) rfl ?_
          obtain rfl := Option.some.inj hR
          exact ret x_19 (Or.inl ⟨_, rfl, a0_17, a1_17, rfl, rfl⟩) g_18.1 g_18.2 dd_X9_beat_2.2.2.2.2.2.2.1
        refine y_loop (P := fun (s_17 : Int32 × Int32 × Int64 × Int32 × Int32 × (Nat → Nat → Int32) × (Nat → Nat → Int32) × Nat × (Nat → Nat → Int32) × Nat × Nat × Nat) => ∀ a0_17 : Nat, ∀ a1_17 : Nat → Nat, X p l e (yR 6 200 1800) s m args below meth c D A H0 3 Q [[(g, .inr (11, [.int x_12.2, .ref gw, .ref gB, .ref gK, .ref gU, .ref gS, .int s_17.2.1, .int gwo, .long s_17.2.2.1, .ref gn, .int glr, .int glc, .int s_17.2.2.2.1, .int s_17.2.2.2.2.1, .ref gR, .int gch, .ref a0_17]))], [(gn, .inr (10, [.int gnr, .int gnk, .int gnc, .int gng, .int gns, .ref gna, .ref gnb]))], [(gna, .inl (cy 3, gnan, .inr (.inr (.inr (.inr (yad gnad))))))], xg_rows gnad gnan (cy 1) gnak gnaG, [(gnb, .inl (cy 3, gnbn, .inr (.inr (.inr (.inr (yad gnbd))))))], xg_rows gnbd gnbn (cy 1) gnbk gnbG, [(gB, .inl (cy 4, 5, .inr (.inr (.inr (.inr (yad gBd))))))], xg_rows gBd 5 (cy 2) 5 gBG, [(gU, .inl (cy 3, 5, .inr (.inr (.inr (.inr (yad gUd))))))], xg_rows gUd 5 (cy 1) 5 s_17.2.2.2.2.2.1, [(gS, .inl (cy 3, 5, .inr (.inr (.inr (.inr (yad gSd))))))], xg_rows gSd 5 (cy 1) 5 s_17.2.2.2.2.2.2.1, [(a0_17, .inl (cy 3, s_17.2.2.2.2.2.2.2.1, .inr (.inr (.inr (.inr (yad a1_17))))))], xg_rows a1_17 s_17.2.2.2.2.2.2.2.1 (cy 1) s_17.2.2.2.2.2.2.2.2.2.1 s_17.2.2.2.2.2.2.2.2.1] s_17.2.2.2.2.2.2.2.2.2.2.1 s_17.2.2.2.2.2.2.2.2.2.2.2 [(0, .ref g), (1, .int i1), (2, .int s_17.1)] 48 []) ?_ _ (0, gbe, gta, gti, ggo, gUG, gSG, gDn, gDG, gDk, 0, 0) hb_17 gD gDd
        intro s_17 o_17 ho_17 hk_17 hx_17 a0_17 a1_17
        obtain ⟨g_23, ho_17⟩ := yf_g ho_17
        refine xr_iload_n (n := 49) (j := 2) C dd_X9_beat_1.2.2.2.2.2.2.2.2.2.2.1 rfl rfl ?_
        refine xr_iload_n (n := 50) (j := 1) C dd_X9_beat_1.2.2.2.2.2.2.2.2.2.2.2.1 rfl rfl ?_
        refine xr_icmp_ge (tgt := 70) (n := 53) C dd_X9_beat_1.2.2.2.2.2.2.2.2.2.2.2.2.1 rfl rfl (fun c_24 => ?_) (fun c_24 => ?_)
        · replace ho_17 := yf_t c_24 ho_17
          refine xr_lv (lv' := [(0, .ref g)]) [0] rfl ?_
          have e_25 := hx_17 _ (Option.some.inj ho_17).symm
          exact K_17 (s_17.1, s_17.2.1, s_17.2.2.1, s_17.2.2.2.1, s_17.2.2.2.2.1, s_17.2.2.2.2.2.1, s_17.2.2.2.2.2.2.1, s_17.2.2.2.2.2.2.2.1, s_17.2.2.2.2.2.2.2.2.1, s_17.2.2.2.2.2.2.2.2.2.1, s_17.2.2.2.2.2.2.2.2.2.2.1, s_17.2.2.2.2.2.2.2.2.2.2.2) e_25.symm a0_17 a1_17
        · replace ho_17 := yf_f c_24 ho_17
          refine xr_aload_n (n := 54) (j := 0) C dd_X9_beat_1.2.2.2.2.2.2.2.2.2.2.2.2.2.1 rfl rfl ?_
          refine xr_get (n := 57) C 0 rfl rfl 9 (by decide) in_X9 u_1246 rfl (v := .ref gn) rfl dd_X9_beat_1.2.2.2.2.2.2.2.2.2.2.2.2.2.2.1 rfl ?_
          refine xr_ifnull (n := 60) C dd_X9_beat_1.2.2.2.2.2.2.2.2.2.2.2.2.2.2.2.1 rfl ?_
          refine xr_aload_n (n := 61) (j := 0) C dd_X9_beat_2.1 rfl rfl ?_
          obtain ⟨x_26, hx_26, ho_17⟩ := yf_b ho_17
          obtain ⟨g_27, ho_17⟩ := yf_g ho_17
          refine xr_callV (n := 64) (As := []) (rest := []) C (kX9_one_ l D cy (g := g) (gth := x_12.2) (gw := gw) (gB := gB) (gK := gK) (gU := gU) (gS := gS) (gbe := s_17.2.1) (gwo := gwo) (gta := s_17.2.2.1) (gn := gn) (glr := glr) (glc := glc) (gti := s_17.2.2.2.1) (ggo := s_17.2.2.2.2.1) (gR := gR) (gch := gch) (gD := a0_17) (gnr := gnr) (gnk := gnk) (gnc := gnc) (gng := gng) (gns := gns) (gna := gna) (gnb := gnb) (gnad := gnad) (gnan := gnan) (gnak := gnak) (gnaG := gnaG) (gnbd := gnbd) (gnbn := gnbn) (gnbk := gnbk) (gnbG := gnbG) (gBd := gBd) (gBG := gBG) (gUd := gUd) (gUG := s_17.2.2.2.2.2.1) (gSd := gSd) (gSG := s_17.2.2.2.2.2.2.1) (gDd := a1_17) (gDn := s_17.2.2.2.2.2.2.2.1) (gDk := s_17.2.2.2.2.2.2.2.2.2.1) (gDG := s_17.2.2.2.2.2.2.2.2.1) hx_26) mX9_one_ u_1438 u_1440 u_39 0 rfl rfl 14 [0, 1, 2, 3, 4, 5, 6, 7, 8, 9, 10, 11, 12, 13] [] rfl (by decide +kernel) rfl rfl rfl rfl (Nat.le_of_ble_eq_true rfl) (Nat.le_of_ble_eq_true rfl) (Nat.le_of_ble_eq_true rfl) g_27.1 g_27.2 dd_X9_beat_2.2.1 rfl (fun v_28 u_29 hp_30 => ?_)
          rcases hp_30 with ⟨w_35, ew_35, q_31, q_32, rfl, rfl⟩ | ⟨w_35, ew_35, q_33, q_34, rfl, rfl⟩
          · subst ew_35
            replace ho_17 := ybr_l ho_17
            refine xr_perm C 14 [0, 1, 2, 3, 4, 5, 6, 7, 8, 9, 10, 11, 12, 13] [] [[(g, .inr (11, [.int x_12.2, .ref gw, .ref gB, .ref gK, .ref gU, .ref gS, .int w_35.1, .int gwo, .long w_35.2.1, .ref gn, .int glr, .int glc, .int w_35.2.2.1, .int w_35.2.2.2.1, .ref gR, .int gch, .ref q_31]))], [(gn, .inr (10, [.int gnr, .int gnk, .int gnc, .int gng, .int gns, .ref gna, .ref gnb]))], [(gna, .inl (cy 3, gnan, .inr (.inr (.inr (.inr (yad gnad))))))], xg_rows gnad gnan (cy 1) gnak gnaG, [(gnb, .inl (cy 3, gnbn, .inr (.inr (.inr (.inr (yad gnbd))))))], xg_rows gnbd gnbn (cy 1) gnbk gnbG, [(gB, .inl (cy 4, 5, .inr (.inr (.inr (.inr (yad gBd))))))], xg_rows gBd 5 (cy 2) 5 gBG, [(gU, .inl (cy 3, 5, .inr (.inr (.inr (.inr (yad gUd))))))], xg_rows gUd 5 (cy 1) 5 w_35.2.2.2.2.1, [(gS, .inl (cy 3, 5, .inr (.inr (.inr (.inr (yad gSd))))))], xg_rows gSd 5 (cy 1) 5 w_35.2.2.2.2.2.1, [(q_31, .inl (cy 3, w_35.2.2.2.2.2.2.1, .inr (.inr (.inr (.inr (yad q_32))))))], xg_rows q_32 w_35.2.2.2.2.2.2.1 (cy 1) w_35.2.2.2.2.2.2.2.1 w_35.2.2.2.2.2.2.2.2] rfl (by decide +kernel) rfl ?_
            refine xr_iinc (j := 2) (v := s_17.1 + 1) (n := 67) C [(2, .int (s_17.1 + 1)), (0, .ref g), (1, .int i1)] dd_X9_beat_2.2.2.1 rfl rfl (by decide) rfl rfl ?_
            refine xr_goto (tgt := 48) C dd_X9_beat_2.2.2.2.1 rfl ?_
            refine xr_lv (lv' := [(0, .ref g), (1, .int i1), (2, .int (s_17.1 + 1))]) [1, 2, 0] rfl ?_
            exact hk_17 (s_17.1 + 1, w_35.1, w_35.2.1, w_35.2.2.1, w_35.2.2.2.1, w_35.2.2.2.2.1, w_35.2.2.2.2.2.1, w_35.2.2.2.2.2.2.1, w_35.2.2.2.2.2.2.2.2, w_35.2.2.2.2.2.2.2.1, s_17.2.2.2.2.2.2.2.2.2.2.1 + (if s_17.2.2.2.1 = 0 then 10 else 0), s_17.2.2.2.2.2.2.2.2.2.2.2 + (if s_17.2.2.2.1 = 0 then 90 else 0)) (Option.some.inj ho_17).symm q_31 q_32
          · subst ew_35
            replace ho_17 := ybr_r ho_17
            refine xr_eq (bs' := [[(g, .inr (11, [.int x_12.2, .ref gw, .ref gB, .ref gK, .ref gU, .ref gS, .int w_35.1, .int gwo, .long w_35.2.1, .null, .int glr, .int glc, .int w_35.2.2.1, .int w_35.2.2.2.1, .ref q_33, .int w_35.2.2.2.2.1, .ref q_33]))], [(gB, .inl (cy 4, 5, .inr (.inr (.inr (.inr (yad gBd))))))], xg_rows gBd 5 (cy 2) 5 gBG, [(gU, .inl (cy 3, 5, .inr (.inr (.inr (.inr (yad gUd))))))], xg_rows gUd 5 (cy 1) 5 w_35.2.2.2.2.2.1, [(gS, .inl (cy 3, 5, .inr (.inr (.inr (.inr (yad gSd))))))], xg_rows gSd 5 (cy 1) 5 w_35.2.2.2.2.2.2.1, [(q_33, .inl (cy 3, w_35.2.2.2.2.2.2.2.1, .inr (.inr (.inr (.inr (yad q_34))))))], xg_rows q_34 w_35.2.2.2.2.2.2.2.1 (cy 1) w_35.2.2.2.2.2.2.2.2.1 w_35.2.2.2.2.2.2.2.2.2]) rfl ?_
            refine xr_iinc (j := 2) (v := s_17.1 + 1) (n := 67) C [(2, .int (s_17.1 + 1)), (0, .ref g), (1, .int i1)] dd_X9_beat_2.2.2.1 rfl rfl (by decide) rfl rfl ?_
            refine xr_goto (tgt := 48) C dd_X9_beat_2.2.2.2.1 rfl ?_
            refine xr_iload_n (n := 49) (j := 0) C dd_X9_beat_1.2.2.2.2.2.2.2.2.2.2.1 rfl rfl ?_
            refine xr_iload_n (n := 50) (j := 2) C dd_X9_beat_1.2.2.2.2.2.2.2.2.2.2.2.1 rfl rfl ?_
            refine xr_icmp_ge (tgt := 70) (n := 53) C dd_X9_beat_1.2.2.2.2.2.2.2.2.2.2.2.2.1 rfl rfl (fun c_36 => ?_) (fun c_36 => ?_)
            · replace ho_17 := yf_t c_36 ho_17
              refine xr_aload_n (n := 71) (j := 1) C dd_X9_beat_2.2.2.2.2.1 rfl rfl ?_
              obtain ⟨x_37, hx_37, ho_17⟩ := yf_b ho_17
              obtain rfl := Option.some.inj (show some ((0) : Int32) = some x_37 from hx_37)
              refine xr_callVp (n := 74) (As := []) (rest := []) C (kX9_rest_i l D cy (g := g) (gth := x_12.2) (gw := gw) (gB := gB) (gK := gK) (gU := gU) (gS := gS) (gbe := w_35.1) (gwo := gwo) (gta := w_35.2.1) (glr := glr) (glc := glc) (gti := w_35.2.2.1) (ggo := w_35.2.2.2.1) (gR := q_33) (gch := w_35.2.2.2.2.1) (gD := q_33) hx_37) mX9_left_ u_1418 u_1420 u_35 0 rfl rfl 9 [0] [1, 2, 3, 4, 5, 6, 7, 8] rfl (by decide +kernel) rfl rfl rfl rfl (Nat.le_of_ble_eq_true rfl) (Nat.le_of_ble_eq_true rfl) (Nat.le_of_ble_eq_true rfl) g_27.1 g_27.2 dd_X9_beat_2.2.2.2.2.2.1 rfl (fun _ _ hp => hp.2) (fun v_38 hp_40 => ?_)
              obtain ⟨rfl, -⟩ := hp_40
              refine xr_st (st' := [.int 0]) rfl ?_
              have e_41 := hx_17 _ (Option.some.inj ho_17).symm
              subst e_41
              replace hR := ybr_r hR
              obtain rfl := Option.some.inj hR
              exact ret 0 (Or.inr ⟨_, rfl, q_33, q_34, rfl, rfl⟩) g_27.1 g_27.2 dd_X9_beat_2.2.2.2.2.2.2.1
            · replace ho_17 := yf_f c_36 ho_17
              refine xr_aload_n (n := 54) (j := 1) C dd_X9_beat_1.2.2.2.2.2.2.2.2.2.2.2.2.2.1 rfl rfl ?_
              refine xr_get (n := 57) C 0 rfl rfl 9 (by decide) in_X9 u_1246 rfl (v := .null) rfl dd_X9_beat_1.2.2.2.2.2.2.2.2.2.2.2.2.2.2.1 rfl ?_
              refine xr_ifnullN (tgt := 70) C dd_X9_beat_1.2.2.2.2.2.2.2.2.2.2.2.2.2.2.2.1 rfl ?_
              refine xr_aload_n (n := 71) (j := 1) C dd_X9_beat_2.2.2.2.2.1 rfl rfl ?_
              obtain ⟨x_42, hx_42, ho_17⟩ := yf_b ho_17
              obtain rfl := Option.some.inj (show some ((0) : Int32) = some x_42 from hx_42)
              refine xr_callVp (n := 74) (As := []) (rest := []) C (kX9_rest_i l D cy (g := g) (gth := x_12.2) (gw := gw) (gB := gB) (gK := gK) (gU := gU) (gS := gS) (gbe := w_35.1) (gwo := gwo) (gta := w_35.2.1) (glr := glr) (glc := glc) (gti := w_35.2.2.1) (ggo := w_35.2.2.2.1) (gR := q_33) (gch := w_35.2.2.2.2.1) (gD := q_33) hx_42) mX9_left_ u_1418 u_1420 u_35 0 rfl rfl 9 [0] [1, 2, 3, 4, 5, 6, 7, 8] rfl (by decide +kernel) rfl rfl rfl rfl (Nat.le_of_ble_eq_true rfl) (Nat.le_of_ble_eq_true rfl) (Nat.le_of_ble_eq_true rfl) g_27.1 g_27.2 dd_X9_beat_2.2.2.2.2.2.1 rfl (fun _ _ hp => hp.2) (fun v_43 hp_45 => ?_)
              obtain ⟨rfl, -⟩ := hp_45
              refine xr_st (st' := [.int 0]) rfl ?_
              have e_46 := hx_17 _ (Option.some.inj ho_17).symm
              subst e_46
              replace hR := ybr_r hR
              obtain rfl := Option.some.inj hR
              exact ret 0 (Or.inr ⟨_, rfl, q_33, q_34, rfl, rfl⟩) g_27.1 g_27.2 dd_X9_beat_2.2.2.2.2.2.2.1
      · replace hR := yf_f c_16 hR
        refine xr_iconst (n := 45) (v := 0) C dd_X9_beat_1.2.2.2.2.2.2.1 rfl rfl ?_
        obtain rfl := Option.some.inj hR
        exact ret 0 (Or.inl ⟨_, rfl, gD, gDd, rfl, rfl⟩) (Nat.le_of_ble_eq_true rfl) (Nat.le_of_ble_eq_true rfl) dd_X9_beat_1.2.2.2.2.2.2.2.1
  refine xr_if_ne (tgt := 16) (n := 12) C dd_X9_beat_0.2.2.2.2.2.1 rfl rfl (fun c_47 => ?_) (fun c_47 => ?_)
  · replace hE_6 := yf_f c_47 hE_6
    refine xr_iconst (n := 17) (v := 0) C dd_X9_beat_0.2.2.2.2.2.2.2.2.1 rfl rfl ?_
    have e_48 := Option.some.inj hE_6
    subst e_48
    exact J_6
  · replace hE_6 := yf_t c_47 hE_6
    refine xr_iconst (n := 13) (v := 1) C dd_X9_beat_0.2.2.2.2.2.2.1 rfl rfl ?_
    refine xr_goto (tgt := 17) C dd_X9_beat_0.2.2.2.2.2.2.2.1 rfl ?_
    have e_49 := Option.some.inj hE_6
    subst e_49
    exact J_6
theorem dX9_bestTold_55 : decode cX9_bestTold 55 = .ok (.tableswitch 64 0 3 #[29, 50, 54, 58], 29) := by decide +kernel
theorem dd_X9_bestTold_0 : dk_R cX9_bestTold [(0, .aload_n 0, 1), (1, .invokevirtual 173, 3), (4, .astore_n 2, 1), (5, .aload_n 2, 1), (6, .arraylength, 1), (7, .ifCond .ne 5, 3), (10, .iconst (-1), 1), (11, .ireturn, 1), (12, .aload_n 2, 1), (13, .iconst 0, 1), (14, .iaload, 1), (15, .invokestatic 103, 3), (18, .istore_n 3, 1), (19, .aload_n 2, 1), (20, .iconst 1, 1), (21, .iaload, 1)] := dk_use _ _ (by decide +kernel)
theorem dd_X9_bestTold_1 : dk_R cX9_bestTold [(22, .invokestatic 103, 3), (25, .istore 4, 2), (27, .aload_n 0, 1), (28, .getfield 16, 3), (31, .invokevirtual 106, 3), (34, .iload_n 3, 1), (35, .invokestatic 110, 3), (38, .istore 5, 2), (40, .aload_n 0, 1), (41, .getfield 16, 3), (44, .invokevirtual 113, 3), (47, .iload 4, 2), (49, .invokestatic 110, 3), (52, .istore 6, 2), (54, .iload_n 1, 1), (84, .aload_n 0, 1)] := dk_use _ _ (by decide +kernel)
theorem dd_X9_bestTold_2 : dk_R cX9_bestTold [(85, .getfield 16, 3), (88, .aload_n 2, 1), (89, .iconst 0, 1), (90, .iaload, 1), (91, .aload_n 2, 1), (92, .iconst 1, 1), (93, .iaload, 1), (94, .aload_n 0, 1), (95, .getfield 16, 3), (98, .invokevirtual 120, 3), (101, .invokestatic 126, 3), (104, .ireturn, 1), (105, .aload_n 2, 1), (106, .iconst 0, 1), (107, .iaload, 1), (108, .ireturn, 1)] := dk_use _ _ (by decide +kernel)
theorem dd_X9_bestTold_3 : dk_R cX9_bestTold [(109, .aload_n 2, 1), (110, .iconst 1, 1), (111, .iaload, 1), (112, .ireturn, 1), (113, .iload 5, 2), (115, .iload 6, 2), (117, .imul, 1), (118, .ireturn, 1), (119, .aload_n 0, 1), (120, .getfield 16, 3), (123, .invokevirtual 120, 3), (126, .aload_n 0, 1), (127, .getfield 16, 3), (130, .invokevirtual 106, 3), (133, .iload 6, 2), (135, .imul, 1)] := dk_use _ _ (by decide +kernel)
theorem dd_X9_bestTold_4 : dk_R cX9_bestTold [(136, .aload_n 0, 1), (137, .getfield 16, 3), (140, .invokevirtual 113, 3), (143, .iload 5, 2), (145, .imul, 1), (146, .iadd, 1), (147, .imul, 1), (148, .ireturn, 1)] := dk_use _ _ (by decide +kernel)
def fX9_bestTold_i (gwr : Int32) (gwk : Int32) (gwc : Int32) (gwg : Int32) (gws : Int32) (gwan : Nat) (gwak : Nat) (gwaG : Nat → Nat → Int32) (gwbn : Nat) (gwbk : Nat) (gwbG : Nat → Nat → Int32) (gKG : Nat → Nat → Int32) (i1 : Int32) : Option (Int32) := ((fX9_bestLayout_i gwr gwk gwc gwg gws gwan gwak gwaG gwbn gwbk gwbG gKG).bind fun x_1 => (if (nI x_1.2) = 0 then some (-1) else (if ¬ ((0 : Int32) < 0 ∨ x_1.2 ≤ (0 : Int32).toNatClampNeg) then ((fJ6_bitCount_0f7a4 (x_1.1 (0 : Int32).toNatClampNeg)).bind fun x_8 => (if ¬ ((1 : Int32) < 0 ∨ x_1.2 ≤ (1 : Int32).toNatClampNeg) then ((fJ6_bitCount_0f7a4 (x_1.1 (1 : Int32).toNatClampNeg)).bind fun x_13 => ((fX8_rows gwr gws).bind fun x_17 => ((fX9_tiles x_17 x_8).bind fun x_21 => ((fX8_columns gwc gws).bind fun x_25 => ((fX9_tiles x_25 x_13).bind fun x_29 => (if i1 = 0 then (if ¬ ((0 : Int32) < 0 ∨ x_1.2 ≤ (0 : Int32).toNatClampNeg) then (if ¬ ((1 : Int32) < 0 ∨ x_1.2 ≤ (1 : Int32).toNatClampNeg) then ((fX8_steps gwk gwg gwan gwak gwaG gwbn gwbk gwbG).bind fun x_36 => ((fX9_beatsOf gwr gwc gws (x_1.1 (0 : Int32).toNatClampNeg) (x_1.1 (1 : Int32).toNatClampNeg) x_36).bind fun x_40 => some x_40)) else none) else none) else (if i1 = 1 then (if ¬ ((0 : Int32) < 0 ∨ x_1.2 ≤ (0 : Int32).toNatClampNeg) then some (x_1.1 (0 : Int32).toNatClampNeg) else none) else (if i1 = 2 then (if ¬ ((1 : Int32) < 0 ∨ x_1.2 ≤ (1 : Int32).toNatClampNeg) then some (x_1.1 (1 : Int32).toNatClampNeg) else none) else (if i1 = 3 then some (x_21 * x_29) else ((fX8_steps gwk gwg gwan gwak gwaG gwbn gwbk gwbG).bind fun x_49 => ((fX8_rows gwr gws).bind fun x_53 => ((fX8_columns gwc gws).bind fun x_57 => some (x_49 * ((x_53 * x_29) + (x_57 * x_21))))))))))))))) else none)) else none)))
abbrev hX9_bestTold : Cond := .code yX9_bestTold cX9_bestTold 7 (some .int)
theorem mX9_bestTold : yM yX9_bestTold hX9_bestTold 1 := ⟨u_1567, u_64, by decide +kernel, by decide +kernel, by decide +kernel⟩
set_option maxHeartbeats 4000000 in
set_option maxRecDepth 100000 in
theorem kX9_bestTold_i (l : Launch) (D : va_G) (cy : Nat → ClassId) (g : Nat) (gth : Int32) (gw : Nat) (gB : Nat) (gK : Nat) (gU : Nat) (gS : Nat) (gbe : Int32) (gwo : Int32) (gta : Int64) (glr : Int32) (glc : Int32) (gti : Int32) (ggo : Int32) (gR : Nat) (gch : Int32) (gD : Nat) (gwr : Int32) (gwk : Int32) (gwc : Int32) (gwg : Int32) (gws : Int32) (gwa : Nat) (gwb : Nat) (gwad : Nat → Nat) (gwan : Nat) (gwak : Nat) (gwaG : Nat → Nat → Int32) (gwbd : Nat → Nat) (gwbn : Nat) (gwbk : Nat) (gwbG : Nat → Nat → Int32) (gKd : Nat → Nat) (gKG : Nat → Nat → Int32) (i1 : Int32) {res : Int32} (hR : fX9_bestTold_i gwr gwk gwc gwg gws gwan gwak gwaG gwbn gwbk gwbG gKG i1 = some res) : YM l D cy yX9_bestTold hX9_bestTold 5 30 60 [.ref g, .int i1] [[(g, .inr (11, [.int gth, .ref gw, .ref gB, .ref gK, .ref gU, .ref gS, .int gbe, .int gwo, .long gta, .null, .int glr, .int glc, .int gti, .int ggo, .ref gR, .int gch, .ref gD]))], [(gw, .inr (10, [.int gwr, .int gwk, .int gwc, .int gwg, .int gws, .ref gwa, .ref gwb]))], [(gwa, .inl (cy 3, gwan, .inr (.inr (.inr (.inr (yad gwad))))))], xg_rows gwad gwan (cy 1) gwak gwaG, [(gwb, .inl (cy 3, gwbn, .inr (.inr (.inr (.inr (yad gwbd))))))], xg_rows gwbd gwbn (cy 1) gwbk gwbG, [(gK, .inl (cy 4, 5, .inr (.inr (.inr (.inr (yad gKd))))))], xg_rows gKd 5 (cy 2) 5 gKG] (fun v u => v = some (.int res) ∧ u = [[(g, .inr (11, [.int gth, .ref gw, .ref gB, .ref gK, .ref gU, .ref gS, .int gbe, .int gwo, .long gta, .null, .int glr, .int glc, .int gti, .int ggo, .ref gR, .int gch, .ref gD]))], [(gw, .inr (10, [.int gwr, .int gwk, .int gwc, .int gwg, .int gws, .ref gwa, .ref gwb]))], [(gwa, .inl (cy 3, gwan, .inr (.inr (.inr (.inr (yad gwad))))))], xg_rows gwad gwan (cy 1) gwak gwaG, [(gwb, .inl (cy 3, gwbn, .inr (.inr (.inr (.inr (yad gwbd))))))], xg_rows gwbd gwbn (cy 1) gwbk gwbG, [(gK, .inl (cy 4, 5, .inr (.inr (.inr (.inr (yad gKd))))))], xg_rows gKd 5 (cy 2) 5 gKG]) := by
  unfold fX9_bestTold_i at hR
  refine YM.ofI (cc := cX9_bestTold) (maxL := 7) (ret := (some .int)) (by decide +kernel) rfl (Nat.le_of_ble_eq_true rfl) [(0, .ref g), (1, .int i1)] rfl rfl (fun p e s m args below meth c A H0 Q C hnm ret => ?_)
  refine xr_aload_n (n := 1) (j := 0) C dd_X9_bestTold_0.1 rfl rfl ?_
  obtain ⟨x_1, hx_1, hR⟩ := yf_b hR
  refine xr_callV (n := 4) (As := []) (rest := []) C (kX9_bestLayout_i l D cy (g := g) (gth := gth) (gw := gw) (gB := gB) (gK := gK) (gU := gU) (gS := gS) (gbe := gbe) (gwo := gwo) (gta := gta) (glr := glr) (glc := glc) (gti := gti) (ggo := ggo) (gR := gR) (gch := gch) (gD := gD) (gwr := gwr) (gwk := gwk) (gwc := gwc) (gwg := gwg) (gws := gws) (gwa := gwa) (gwb := gwb) (gwad := gwad) (gwan := gwan) (gwak := gwak) (gwaG := gwaG) (gwbd := gwbd) (gwbn := gwbn) (gwbk := gwbk) (gwbG := gwbG) (gKd := gKd) (gKG := gKG) hx_1) mX9_bestLayout u_1355 u_1357 u_32 0 rfl rfl 8 [0, 1, 2, 3, 4, 5, 6, 7] [] rfl (by decide +kernel) rfl rfl rfl rfl (Nat.le_of_ble_eq_true rfl) (Nat.le_of_ble_eq_true rfl) (Nat.le_of_ble_eq_true rfl) (Nat.le_of_ble_eq_true rfl) (Nat.le_of_ble_eq_true rfl) dd_X9_bestTold_0.2.1 rfl (fun v_2 u_3 hp_4 => ?_)
  obtain ⟨q_5, rfl, rfl⟩ := hp_4
  refine xr_perm C 9 [0, 1, 2, 3, 4, 5, 6, 7, 8] [] [[(g, .inr (11, [.int gth, .ref gw, .ref gB, .ref gK, .ref gU, .ref gS, .int gbe, .int gwo, .long gta, .null, .int glr, .int glc, .int gti, .int ggo, .ref gR, .int gch, .ref gD]))], [(gw, .inr (10, [.int gwr, .int gwk, .int gwc, .int gwg, .int gws, .ref gwa, .ref gwb]))], [(gwa, .inl (cy 3, gwan, .inr (.inr (.inr (.inr (yad gwad))))))], xg_rows gwad gwan (cy 1) gwak gwaG, [(gwb, .inl (cy 3, gwbn, .inr (.inr (.inr (.inr (yad gwbd))))))], xg_rows gwbd gwbn (cy 1) gwbk gwbG, [(gK, .inl (cy 4, 5, .inr (.inr (.inr (.inr (yad gKd))))))], xg_rows gKd 5 (cy 2) 5 gKG, [(q_5, .inl (cy 1, x_1.2, .inl x_1.1))]] rfl (by decide +kernel) rfl ?_
  refine xr_st (st' := [.ref q_5]) rfl ?_
  refine xr_astore_n (n := 5) C [(2, .ref q_5), (0, .ref g), (1, .int i1)] dd_X9_bestTold_0.2.2.1 (by decide) rfl rfl ?_
  refine xr_aload_n (n := 6) (j := 0) C dd_X9_bestTold_0.2.2.2.1 rfl rfl ?_
  refine xr_alen (n := 7) C 8 0 rfl 1 rfl rfl dd_X9_bestTold_0.2.2.2.2.1 rfl ?_
  refine xr_if_ne (tgt := 12) (n := 10) C dd_X9_bestTold_0.2.2.2.2.2.1 rfl rfl (fun c_6 => ?_) (fun c_6 => ?_)
  · replace hR := yf_f c_6 hR
    refine xr_aload_n (n := 13) (j := 0) C dd_X9_bestTold_0.2.2.2.2.2.2.2.2.1 rfl rfl ?_
    refine xr_iconst (n := 14) (v := 0) C dd_X9_bestTold_0.2.2.2.2.2.2.2.2.2.1 rfl rfl ?_
    obtain ⟨g_7, hR⟩ := yf_g hR
    refine xr_iald (n := 15) C 8 0 rfl rfl g_7 dd_X9_bestTold_0.2.2.2.2.2.2.2.2.2.2.1 rfl ?_
    obtain ⟨x_8, hx_8, hR⟩ := yf_b hR
    refine xr_callSp (n := 18) (As := [.int (x_1.1 (0 : Int32).toNatClampNeg)]) (rest := []) C (kJ6_bitCount_0f7a4 l D cy (i1 := x_1.1 (0 : Int32).toNatClampNeg) hx_8) mJ6_bitCount_0f7a4 u_1383 u_349 9 [] [0, 1, 2, 3, 4, 5, 6, 7, 8] rfl (by decide +kernel) rfl rfl rfl rfl (Nat.le_of_ble_eq_true rfl) (Nat.le_of_ble_eq_true rfl) (Nat.le_of_ble_eq_true rfl) (Nat.le_of_ble_eq_true rfl) (Nat.le_of_ble_eq_true rfl) dd_X9_bestTold_0.2.2.2.2.2.2.2.2.2.2.2.1 rfl (fun _ _ hp => hp.2) (fun v_9 hp_11 => ?_)
    obtain ⟨rfl, -⟩ := hp_11
    refine xr_st (st' := [.int x_8]) rfl ?_
    refine xr_istore_n (n := 19) C [(3, .int x_8), (2, .ref q_5), (0, .ref g), (1, .int i1)] dd_X9_bestTold_0.2.2.2.2.2.2.2.2.2.2.2.2.1 (by decide) rfl rfl ?_
    refine xr_aload_n (n := 20) (j := 1) C dd_X9_bestTold_0.2.2.2.2.2.2.2.2.2.2.2.2.2.1 rfl rfl ?_
    refine xr_iconst (n := 21) (v := 1) C dd_X9_bestTold_0.2.2.2.2.2.2.2.2.2.2.2.2.2.2.1 rfl rfl ?_
    obtain ⟨g_12, hR⟩ := yf_g hR
    refine xr_iald (n := 22) C 8 0 rfl rfl g_12 dd_X9_bestTold_0.2.2.2.2.2.2.2.2.2.2.2.2.2.2.2.1 rfl ?_
    obtain ⟨x_13, hx_13, hR⟩ := yf_b hR
    refine xr_callSp (n := 25) (As := [.int (x_1.1 (1 : Int32).toNatClampNeg)]) (rest := []) C (kJ6_bitCount_0f7a4 l D cy (i1 := x_1.1 (1 : Int32).toNatClampNeg) hx_13) mJ6_bitCount_0f7a4 u_1383 u_349 9 [] [0, 1, 2, 3, 4, 5, 6, 7, 8] rfl (by decide +kernel) rfl rfl rfl rfl (Nat.le_of_ble_eq_true rfl) (Nat.le_of_ble_eq_true rfl) (Nat.le_of_ble_eq_true rfl) (Nat.le_of_ble_eq_true rfl) (Nat.le_of_ble_eq_true rfl) dd_X9_bestTold_1.1 rfl (fun _ _ hp => hp.2) (fun v_14 hp_16 => ?_)
    obtain ⟨rfl, -⟩ := hp_16
    refine xr_st (st' := [.int x_13]) rfl ?_
    refine xr_istore (n := 27) C [(4, .int x_13), (3, .int x_8), (2, .ref q_5), (0, .ref g), (1, .int i1)] dd_X9_bestTold_1.2.1 (by decide) rfl rfl ?_
    refine xr_aload_n (n := 28) (j := 3) C dd_X9_bestTold_1.2.2.1 rfl rfl ?_
    refine xr_get (n := 31) C 0 rfl rfl 1 (by decide) in_X9 u_1238 rfl (v := .ref gw) rfl dd_X9_bestTold_1.2.2.2.1 rfl ?_
    obtain ⟨x_17, hx_17, hR⟩ := yf_b hR
    refine xr_callVp (n := 34) (As := []) (rest := []) C (kX8_rows l D cy (w := gw) (wr := gwr) (wk := gwk) (wc := gwc) (wg := gwg) (ws := gws) (wa := gwa) (wb := gwb) hx_17) mX8_rows u_1384 u_1385 u_1386 1 rfl rfl 9 [1] [0, 2, 3, 4, 5, 6, 7, 8] rfl (by decide +kernel) rfl rfl rfl rfl (Nat.le_of_ble_eq_true rfl) (Nat.le_of_ble_eq_true rfl) (Nat.le_of_ble_eq_true rfl) (Nat.le_of_ble_eq_true rfl) (Nat.le_of_ble_eq_true rfl) dd_X9_bestTold_1.2.2.2.2.1 rfl (fun _ _ hp => hp.2) (fun v_18 hp_20 => ?_)
    obtain ⟨rfl, -⟩ := hp_20
    refine xr_st (st' := [.int x_17]) rfl ?_
    refine xr_iload_n (n := 35) (j := 1) C dd_X9_bestTold_1.2.2.2.2.2.1 rfl rfl ?_
    obtain ⟨x_21, hx_21, hR⟩ := yf_b hR
    refine xr_callSp (n := 38) (As := [.int x_17, .int x_8]) (rest := []) C (kX9_tiles l D cy (i1 := x_17) (i2 := x_8) hx_21) mX9_tiles u_1388 u_1389 9 [] [0, 1, 2, 3, 4, 5, 6, 7, 8] rfl (by decide +kernel) rfl rfl rfl rfl (Nat.le_of_ble_eq_true rfl) (Nat.le_of_ble_eq_true rfl) (Nat.le_of_ble_eq_true rfl) (Nat.le_of_ble_eq_true rfl) (Nat.le_of_ble_eq_true rfl) dd_X9_bestTold_1.2.2.2.2.2.2.1 rfl (fun _ _ hp => hp.2) (fun v_22 hp_24 => ?_)
    obtain ⟨rfl, -⟩ := hp_24
    refine xr_st (st' := [.int x_21]) rfl ?_
    refine xr_istore (n := 40) C [(5, .int x_21), (4, .int x_13), (3, .int x_8), (2, .ref q_5), (0, .ref g), (1, .int i1)] dd_X9_bestTold_1.2.2.2.2.2.2.2.1 (by decide) rfl rfl ?_
    refine xr_aload_n (n := 41) (j := 4) C dd_X9_bestTold_1.2.2.2.2.2.2.2.2.1 rfl rfl ?_
    refine xr_get (n := 44) C 0 rfl rfl 1 (by decide) in_X9 u_1238 rfl (v := .ref gw) rfl dd_X9_bestTold_1.2.2.2.2.2.2.2.2.2.1 rfl ?_
    obtain ⟨x_25, hx_25, hR⟩ := yf_b hR
    refine xr_callVp (n := 47) (As := []) (rest := []) C (kX8_columns l D cy (w := gw) (wr := gwr) (wk := gwk) (wc := gwc) (wg := gwg) (ws := gws) (wa := gwa) (wb := gwb) hx_25) mX8_columns u_1391 u_1392 u_1393 1 rfl rfl 9 [1] [0, 2, 3, 4, 5, 6, 7, 8] rfl (by decide +kernel) rfl rfl rfl rfl (Nat.le_of_ble_eq_true rfl) (Nat.le_of_ble_eq_true rfl) (Nat.le_of_ble_eq_true rfl) (Nat.le_of_ble_eq_true rfl) (Nat.le_of_ble_eq_true rfl) dd_X9_bestTold_1.2.2.2.2.2.2.2.2.2.2.1 rfl (fun _ _ hp => hp.2) (fun v_26 hp_28 => ?_)
    obtain ⟨rfl, -⟩ := hp_28
    refine xr_st (st' := [.int x_25]) rfl ?_
    refine xr_iload (n := 49) (j := 1) C dd_X9_bestTold_1.2.2.2.2.2.2.2.2.2.2.2.1 rfl rfl ?_
    obtain ⟨x_29, hx_29, hR⟩ := yf_b hR
    refine xr_callSp (n := 52) (As := [.int x_25, .int x_13]) (rest := []) C (kX9_tiles l D cy (i1 := x_25) (i2 := x_13) hx_29) mX9_tiles u_1388 u_1389 9 [] [0, 1, 2, 3, 4, 5, 6, 7, 8] rfl (by decide +kernel) rfl rfl rfl rfl (Nat.le_of_ble_eq_true rfl) (Nat.le_of_ble_eq_true rfl) (Nat.le_of_ble_eq_true rfl) (Nat.le_of_ble_eq_true rfl) (Nat.le_of_ble_eq_true rfl) dd_X9_bestTold_1.2.2.2.2.2.2.2.2.2.2.2.2.1 rfl (fun _ _ hp => hp.2) (fun v_30 hp_32 => ?_)
    obtain ⟨rfl, -⟩ := hp_32
    refine xr_st (st' := [.int x_29]) rfl ?_
    refine xr_istore (n := 54) C [(6, .int x_29), (5, .int x_21), (4, .int x_13), (3, .int x_8), (2, .ref q_5), (0, .ref g), (1, .int i1)] dd_X9_bestTold_1.2.2.2.2.2.2.2.2.2.2.2.2.2.1 (by decide) rfl rfl ?_
    refine xr_iload_n (n := 55) (j := 6) C dd_X9_bestTold_1.2.2.2.2.2.2.2.2.2.2.2.2.2.2.1 rfl rfl ?_
    by_cases c_33 : i1 = 0
    · replace hR := yf_t c_33 hR
      refine xr_tableIn (off := 29) (tgt := 84) C dX9_bestTold_55 (by rw [c_33]; decide) (by rw [c_33]; decide) (by rw [c_33]; decide) rfl ?_
      refine xr_aload_n (n := 85) (j := 5) C dd_X9_bestTold_1.2.2.2.2.2.2.2.2.2.2.2.2.2.2.2.1 rfl rfl ?_
      refine xr_get (n := 88) C 0 rfl rfl 1 (by decide) in_X9 u_1238 rfl (v := .ref gw) rfl dd_X9_bestTold_2.1 rfl ?_
      refine xr_aload_n (n := 89) (j := 4) C dd_X9_bestTold_2.2.1 rfl rfl ?_
      refine xr_iconst (n := 90) (v := 0) C dd_X9_bestTold_2.2.2.1 rfl rfl ?_
      obtain ⟨g_34, hR⟩ := yf_g hR
      refine xr_iald (n := 91) C 8 0 rfl rfl g_34 dd_X9_bestTold_2.2.2.2.1 rfl ?_
      refine xr_aload_n (n := 92) (j := 4) C dd_X9_bestTold_2.2.2.2.2.1 rfl rfl ?_
      refine xr_iconst (n := 93) (v := 1) C dd_X9_bestTold_2.2.2.2.2.2.1 rfl rfl ?_
      obtain ⟨g_35, hR⟩ := yf_g hR
      refine xr_iald (n := 94) C 8 0 rfl rfl g_35 dd_X9_bestTold_2.2.2.2.2.2.2.1 rfl ?_
      refine xr_aload_n (n := 95) (j := 5) C dd_X9_bestTold_2.2.2.2.2.2.2.2.1 rfl rfl ?_
      refine xr_get (n := 98) C 0 rfl rfl 1 (by decide) in_X9 u_1238 rfl (v := .ref gw) rfl dd_X9_bestTold_2.2.2.2.2.2.2.2.2.1 rfl ?_
      obtain ⟨x_36, hx_36, hR⟩ := yf_b hR
      refine xr_callVp (n := 101) (As := []) (rest := [.int (x_1.1 (1 : Int32).toNatClampNeg), .int (x_1.1 (0 : Int32).toNatClampNeg), .ref gw]) C (kX8_steps l D cy (w := gw) (wr := gwr) (wk := gwk) (wc := gwc) (wg := gwg) (ws := gws) (wa := gwa) (wb := gwb) (wad := gwad) (wan := gwan) (wak := gwak) (waG := gwaG) (wbd := gwbd) (wbn := gwbn) (wbk := gwbk) (wbG := gwbG) hx_36) mX8_steps u_1359 u_1360 u_1361 1 rfl rfl 9 [1, 2, 3, 4, 5] [0, 6, 7, 8] rfl (by decide +kernel) rfl rfl rfl rfl (Nat.le_of_ble_eq_true rfl) (Nat.le_of_ble_eq_true rfl) (Nat.le_of_ble_eq_true rfl) (Nat.le_of_ble_eq_true rfl) (Nat.le_of_ble_eq_true rfl) dd_X9_bestTold_2.2.2.2.2.2.2.2.2.2.1 rfl (fun _ _ hp => hp.2) (fun v_37 hp_39 => ?_)
      obtain ⟨rfl, -⟩ := hp_39
      refine xr_st (st' := [.int x_36, .int (x_1.1 (1 : Int32).toNatClampNeg), .int (x_1.1 (0 : Int32).toNatClampNeg), .ref gw]) rfl ?_
      obtain ⟨x_40, hx_40, hR⟩ := yf_b hR
      refine xr_callSp (n := 104) (As := [.ref gw, .int (x_1.1 (0 : Int32).toNatClampNeg), .int (x_1.1 (1 : Int32).toNatClampNeg), .int x_36]) (rest := []) C (kX9_beatsOf l D cy (w := gw) (wr := gwr) (wk := gwk) (wc := gwc) (wg := gwg) (ws := gws) (wa := gwa) (wb := gwb) (i1 := x_1.1 (0 : Int32).toNatClampNeg) (i2 := x_1.1 (1 : Int32).toNatClampNeg) (i3 := x_36) hx_40) mX9_beatsOf u_1380 u_1381 9 [1] [0, 2, 3, 4, 5, 6, 7, 8] rfl (by decide +kernel) rfl rfl rfl rfl (Nat.le_of_ble_eq_true rfl) (Nat.le_of_ble_eq_true rfl) (Nat.le_of_ble_eq_true rfl) (Nat.le_of_ble_eq_true rfl) (Nat.le_of_ble_eq_true rfl) dd_X9_bestTold_2.2.2.2.2.2.2.2.2.2.2.1 rfl (fun _ _ hp => hp.2) (fun v_41 hp_43 => ?_)
      obtain ⟨rfl, -⟩ := hp_43
      refine xr_st (st' := [.int x_40]) rfl ?_
      obtain rfl := Option.some.inj hR
      refine xr_perm C 9 [0, 1, 2, 3, 4, 5, 6, 7] [8] [[(g, .inr (11, [.int gth, .ref gw, .ref gB, .ref gK, .ref gU, .ref gS, .int gbe, .int gwo, .long gta, .null, .int glr, .int glc, .int gti, .int ggo, .ref gR, .int gch, .ref gD]))], [(gw, .inr (10, [.int gwr, .int gwk, .int gwc, .int gwg, .int gws, .ref gwa, .ref gwb]))], [(gwa, .inl (cy 3, gwan, .inr (.inr (.inr (.inr (yad gwad))))))], xg_rows gwad gwan (cy 1) gwak gwaG, [(gwb, .inl (cy 3, gwbn, .inr (.inr (.inr (.inr (yad gwbd))))))], xg_rows gwbd gwbn (cy 1) gwbk gwbG, [(gK, .inl (cy 4, 5, .inr (.inr (.inr (.inr (yad gKd))))))], xg_rows gKd 5 (cy 2) 5 gKG] rfl (by decide +kernel) rfl ?_
      exact ret x_40 ⟨rfl, rfl⟩ (Nat.le_of_ble_eq_true rfl) (Nat.le_of_ble_eq_true rfl) dd_X9_bestTold_2.2.2.2.2.2.2.2.2.2.2.2.1
    replace hR := yf_f c_33 hR
    by_cases c_44 : i1 = 1
    · replace hR := yf_t c_44 hR
      refine xr_tableIn (off := 50) (tgt := 105) C dX9_bestTold_55 (by rw [c_44]; decide) (by rw [c_44]; decide) (by rw [c_44]; decide) rfl ?_
      refine xr_aload_n (n := 106) (j := 4) C dd_X9_bestTold_2.2.2.2.2.2.2.2.2.2.2.2.2.1 rfl rfl ?_
      refine xr_iconst (n := 107) (v := 0) C dd_X9_bestTold_2.2.2.2.2.2.2.2.2.2.2.2.2.2.1 rfl rfl ?_
      obtain ⟨g_45, hR⟩ := yf_g hR
      refine xr_iald (n := 108) C 8 0 rfl rfl g_45 dd_X9_bestTold_2.2.2.2.2.2.2.2.2.2.2.2.2.2.2.1 rfl ?_
      obtain rfl := Option.some.inj hR
      refine xr_perm C 9 [0, 1, 2, 3, 4, 5, 6, 7] [8] [[(g, .inr (11, [.int gth, .ref gw, .ref gB, .ref gK, .ref gU, .ref gS, .int gbe, .int gwo, .long gta, .null, .int glr, .int glc, .int gti, .int ggo, .ref gR, .int gch, .ref gD]))], [(gw, .inr (10, [.int gwr, .int gwk, .int gwc, .int gwg, .int gws, .ref gwa, .ref gwb]))], [(gwa, .inl (cy 3, gwan, .inr (.inr (.inr (.inr (yad gwad))))))], xg_rows gwad gwan (cy 1) gwak gwaG, [(gwb, .inl (cy 3, gwbn, .inr (.inr (.inr (.inr (yad gwbd))))))], xg_rows gwbd gwbn (cy 1) gwbk gwbG, [(gK, .inl (cy 4, 5, .inr (.inr (.inr (.inr (yad gKd))))))], xg_rows gKd 5 (cy 2) 5 gKG] rfl (by decide +kernel) rfl ?_
      exact ret (x_1.1 (0 : Int32).toNatClampNeg) ⟨rfl, rfl⟩ (Nat.le_of_ble_eq_true rfl) (Nat.le_of_ble_eq_true rfl) dd_X9_bestTold_2.2.2.2.2.2.2.2.2.2.2.2.2.2.2.2.1
    replace hR := yf_f c_44 hR
    by_cases c_46 : i1 = 2
    · replace hR := yf_t c_46 hR
      refine xr_tableIn (off := 54) (tgt := 109) C dX9_bestTold_55 (by rw [c_46]; decide) (by rw [c_46]; decide) (by rw [c_46]; decide) rfl ?_
      refine xr_aload_n (n := 110) (j := 4) C dd_X9_bestTold_3.1 rfl rfl ?_
      refine xr_iconst (n := 111) (v := 1) C dd_X9_bestTold_3.2.1 rfl rfl ?_
      obtain ⟨g_47, hR⟩ := yf_g hR
      refine xr_iald (n := 112) C 8 0 rfl rfl g_47 dd_X9_bestTold_3.2.2.1 rfl ?_
      obtain rfl := Option.some.inj hR
      refine xr_perm C 9 [0, 1, 2, 3, 4, 5, 6, 7] [8] [[(g, .inr (11, [.int gth, .ref gw, .ref gB, .ref gK, .ref gU, .ref gS, .int gbe, .int gwo, .long gta, .null, .int glr, .int glc, .int gti, .int ggo, .ref gR, .int gch, .ref gD]))], [(gw, .inr (10, [.int gwr, .int gwk, .int gwc, .int gwg, .int gws, .ref gwa, .ref gwb]))], [(gwa, .inl (cy 3, gwan, .inr (.inr (.inr (.inr (yad gwad))))))], xg_rows gwad gwan (cy 1) gwak gwaG, [(gwb, .inl (cy 3, gwbn, .inr (.inr (.inr (.inr (yad gwbd))))))], xg_rows gwbd gwbn (cy 1) gwbk gwbG, [(gK, .inl (cy 4, 5, .inr (.inr (.inr (.inr (yad gKd))))))], xg_rows gKd 5 (cy 2) 5 gKG] rfl (by decide +kernel) rfl ?_
      exact ret (x_1.1 (1 : Int32).toNatClampNeg) ⟨rfl, rfl⟩ (Nat.le_of_ble_eq_true rfl) (Nat.le_of_ble_eq_true rfl) dd_X9_bestTold_3.2.2.2.1
    replace hR := yf_f c_46 hR
    by_cases c_48 : i1 = 3
    · replace hR := yf_t c_48 hR
      refine xr_tableIn (off := 58) (tgt := 113) C dX9_bestTold_55 (by rw [c_48]; decide) (by rw [c_48]; decide) (by rw [c_48]; decide) rfl ?_
      refine xr_iload (n := 115) (j := 1) C dd_X9_bestTold_3.2.2.2.2.1 rfl rfl ?_
      refine xr_iload (n := 117) (j := 0) C dd_X9_bestTold_3.2.2.2.2.2.1 rfl rfl ?_
      refine xr_imul (n := 118) C dd_X9_bestTold_3.2.2.2.2.2.2.1 rfl ?_
      obtain rfl := Option.some.inj hR
      refine xr_perm C 9 [0, 1, 2, 3, 4, 5, 6, 7] [8] [[(g, .inr (11, [.int gth, .ref gw, .ref gB, .ref gK, .ref gU, .ref gS, .int gbe, .int gwo, .long gta, .null, .int glr, .int glc, .int gti, .int ggo, .ref gR, .int gch, .ref gD]))], [(gw, .inr (10, [.int gwr, .int gwk, .int gwc, .int gwg, .int gws, .ref gwa, .ref gwb]))], [(gwa, .inl (cy 3, gwan, .inr (.inr (.inr (.inr (yad gwad))))))], xg_rows gwad gwan (cy 1) gwak gwaG, [(gwb, .inl (cy 3, gwbn, .inr (.inr (.inr (.inr (yad gwbd))))))], xg_rows gwbd gwbn (cy 1) gwbk gwbG, [(gK, .inl (cy 4, 5, .inr (.inr (.inr (.inr (yad gKd))))))], xg_rows gKd 5 (cy 2) 5 gKG] rfl (by decide +kernel) rfl ?_
      exact ret (x_21 * x_29) ⟨rfl, rfl⟩ (Nat.le_of_ble_eq_true rfl) (Nat.le_of_ble_eq_true rfl) dd_X9_bestTold_3.2.2.2.2.2.2.2.1
    replace hR := yf_f c_48 hR
    refine xr_tableOut (tgt := 119) C dX9_bestTold_55 (ytab_out (fun k h1 h2 => by
      rcases (show k = 0 ∨ k = 1 ∨ k = 2 ∨ k = 3 by omega) with rfl | rfl | rfl | rfl
      · exact c_33
      · exact c_44
      · exact c_46
      · exact c_48)) rfl ?_
    refine xr_aload_n (n := 120) (j := 5) C dd_X9_bestTold_3.2.2.2.2.2.2.2.2.1 rfl rfl ?_
    refine xr_get (n := 123) C 0 rfl rfl 1 (by decide) in_X9 u_1238 rfl (v := .ref gw) rfl dd_X9_bestTold_3.2.2.2.2.2.2.2.2.2.1 rfl ?_
    obtain ⟨x_49, hx_49, hR⟩ := yf_b hR
    refine xr_callVp (n := 126) (As := []) (rest := []) C (kX8_steps l D cy (w := gw) (wr := gwr) (wk := gwk) (wc := gwc) (wg := gwg) (ws := gws) (wa := gwa) (wb := gwb) (wad := gwad) (wan := gwan) (wak := gwak) (waG := gwaG) (wbd := gwbd) (wbn := gwbn) (wbk := gwbk) (wbG := gwbG) hx_49) mX8_steps u_1359 u_1360 u_1361 1 rfl rfl 9 [1, 2, 3, 4, 5] [0, 6, 7, 8] rfl (by decide +kernel) rfl rfl rfl rfl (Nat.le_of_ble_eq_true rfl) (Nat.le_of_ble_eq_true rfl) (Nat.le_of_ble_eq_true rfl) (Nat.le_of_ble_eq_true rfl) (Nat.le_of_ble_eq_true rfl) dd_X9_bestTold_3.2.2.2.2.2.2.2.2.2.2.1 rfl (fun _ _ hp => hp.2) (fun v_50 hp_52 => ?_)
    obtain ⟨rfl, -⟩ := hp_52
    refine xr_st (st' := [.int x_49]) rfl ?_
    refine xr_aload_n (n := 127) (j := 5) C dd_X9_bestTold_3.2.2.2.2.2.2.2.2.2.2.2.1 rfl rfl ?_
    refine xr_get (n := 130) C 0 rfl rfl 1 (by decide) in_X9 u_1238 rfl (v := .ref gw) rfl dd_X9_bestTold_3.2.2.2.2.2.2.2.2.2.2.2.2.1 rfl ?_
    obtain ⟨x_53, hx_53, hR⟩ := yf_b hR
    refine xr_callVp (n := 133) (As := []) (rest := [.int x_49]) C (kX8_rows l D cy (w := gw) (wr := gwr) (wk := gwk) (wc := gwc) (wg := gwg) (ws := gws) (wa := gwa) (wb := gwb) hx_53) mX8_rows u_1384 u_1385 u_1386 1 rfl rfl 9 [1] [0, 2, 3, 4, 5, 6, 7, 8] rfl (by decide +kernel) rfl rfl rfl rfl (Nat.le_of_ble_eq_true rfl) (Nat.le_of_ble_eq_true rfl) (Nat.le_of_ble_eq_true rfl) (Nat.le_of_ble_eq_true rfl) (Nat.le_of_ble_eq_true rfl) dd_X9_bestTold_3.2.2.2.2.2.2.2.2.2.2.2.2.2.1 rfl (fun _ _ hp => hp.2) (fun v_54 hp_56 => ?_)
    obtain ⟨rfl, -⟩ := hp_56
    refine xr_st (st' := [.int x_53, .int x_49]) rfl ?_
    refine xr_iload (n := 135) (j := 0) C dd_X9_bestTold_3.2.2.2.2.2.2.2.2.2.2.2.2.2.2.1 rfl rfl ?_
    refine xr_imul (n := 136) C dd_X9_bestTold_3.2.2.2.2.2.2.2.2.2.2.2.2.2.2.2.1 rfl ?_
    refine xr_aload_n (n := 137) (j := 5) C dd_X9_bestTold_4.1 rfl rfl ?_
    refine xr_get (n := 140) C 0 rfl rfl 1 (by decide) in_X9 u_1238 rfl (v := .ref gw) rfl dd_X9_bestTold_4.2.1 rfl ?_
    obtain ⟨x_57, hx_57, hR⟩ := yf_b hR
    refine xr_callVp (n := 143) (As := []) (rest := [.int (x_53 * x_29), .int x_49]) C (kX8_columns l D cy (w := gw) (wr := gwr) (wk := gwk) (wc := gwc) (wg := gwg) (ws := gws) (wa := gwa) (wb := gwb) hx_57) mX8_columns u_1391 u_1392 u_1393 1 rfl rfl 9 [1] [0, 2, 3, 4, 5, 6, 7, 8] rfl (by decide +kernel) rfl rfl rfl rfl (Nat.le_of_ble_eq_true rfl) (Nat.le_of_ble_eq_true rfl) (Nat.le_of_ble_eq_true rfl) (Nat.le_of_ble_eq_true rfl) (Nat.le_of_ble_eq_true rfl) dd_X9_bestTold_4.2.2.1 rfl (fun _ _ hp => hp.2) (fun v_58 hp_60 => ?_)
    obtain ⟨rfl, -⟩ := hp_60
    refine xr_st (st' := [.int x_57, .int (x_53 * x_29), .int x_49]) rfl ?_
    refine xr_iload (n := 145) (j := 1) C dd_X9_bestTold_4.2.2.2.1 rfl rfl ?_
    refine xr_imul (n := 146) C dd_X9_bestTold_4.2.2.2.2.1 rfl ?_
    refine xr_iadd (n := 147) C dd_X9_bestTold_4.2.2.2.2.2.1 rfl ?_
    refine xr_imul (n := 148) C dd_X9_bestTold_4.2.2.2.2.2.2.1 rfl ?_
    obtain rfl := Option.some.inj hR
    refine xr_perm C 9 [0, 1, 2, 3, 4, 5, 6, 7] [8] [[(g, .inr (11, [.int gth, .ref gw, .ref gB, .ref gK, .ref gU, .ref gS, .int gbe, .int gwo, .long gta, .null, .int glr, .int glc, .int gti, .int ggo, .ref gR, .int gch, .ref gD]))], [(gw, .inr (10, [.int gwr, .int gwk, .int gwc, .int gwg, .int gws, .ref gwa, .ref gwb]))], [(gwa, .inl (cy 3, gwan, .inr (.inr (.inr (.inr (yad gwad))))))], xg_rows gwad gwan (cy 1) gwak gwaG, [(gwb, .inl (cy 3, gwbn, .inr (.inr (.inr (.inr (yad gwbd))))))], xg_rows gwbd gwbn (cy 1) gwbk gwbG, [(gK, .inl (cy 4, 5, .inr (.inr (.inr (.inr (yad gKd))))))], xg_rows gKd 5 (cy 2) 5 gKG] rfl (by decide +kernel) rfl ?_
    exact ret (x_49 * ((x_53 * x_29) + (x_57 * x_21))) ⟨rfl, rfl⟩ (Nat.le_of_ble_eq_true rfl) (Nat.le_of_ble_eq_true rfl) dd_X9_bestTold_4.2.2.2.2.2.2.2.1
  · replace hR := yf_t c_6 hR
    refine xr_iconst (n := 11) (v := -1) C dd_X9_bestTold_0.2.2.2.2.2.2.1 rfl rfl ?_
    obtain rfl := Option.some.inj hR
    refine xr_perm C 9 [0, 1, 2, 3, 4, 5, 6, 7] [8] [[(g, .inr (11, [.int gth, .ref gw, .ref gB, .ref gK, .ref gU, .ref gS, .int gbe, .int gwo, .long gta, .null, .int glr, .int glc, .int gti, .int ggo, .ref gR, .int gch, .ref gD]))], [(gw, .inr (10, [.int gwr, .int gwk, .int gwc, .int gwg, .int gws, .ref gwa, .ref gwb]))], [(gwa, .inl (cy 3, gwan, .inr (.inr (.inr (.inr (yad gwad))))))], xg_rows gwad gwan (cy 1) gwak gwaG, [(gwb, .inl (cy 3, gwbn, .inr (.inr (.inr (.inr (yad gwbd))))))], xg_rows gwbd gwbn (cy 1) gwbk gwbG, [(gK, .inl (cy 4, 5, .inr (.inr (.inr (.inr (yad gKd))))))], xg_rows gKd 5 (cy 2) 5 gKG] rfl (by decide +kernel) rfl ?_
    exact ret (-1) ⟨rfl, rfl⟩ (Nat.le_of_ble_eq_true rfl) (Nat.le_of_ble_eq_true rfl) dd_X9_bestTold_0.2.2.2.2.2.2.2.1
def fX9_bestTold_r (gwr : Int32) (gwk : Int32) (gwc : Int32) (gwg : Int32) (gws : Int32) (gwan : Nat) (gwak : Nat) (gwaG : Nat → Nat → Int32) (gwbn : Nat) (gwbk : Nat) (gwbG : Nat → Nat → Int32) (gKG : Nat → Nat → Int32) (i1 : Int32) : Option (Int32) := ((fX9_bestLayout_r gwr gwk gwc gwg gws gwan gwak gwaG gwbn gwbk gwbG gKG).bind fun x_1 => (if (nI x_1.2) = 0 then some (-1) else (if ¬ ((0 : Int32) < 0 ∨ x_1.2 ≤ (0 : Int32).toNatClampNeg) then ((fJ6_bitCount_0f7a4 (x_1.1 (0 : Int32).toNatClampNeg)).bind fun x_8 => (if ¬ ((1 : Int32) < 0 ∨ x_1.2 ≤ (1 : Int32).toNatClampNeg) then ((fJ6_bitCount_0f7a4 (x_1.1 (1 : Int32).toNatClampNeg)).bind fun x_13 => ((fX8_rows gwr gws).bind fun x_17 => ((fX9_tiles x_17 x_8).bind fun x_21 => ((fX8_columns gwc gws).bind fun x_25 => ((fX9_tiles x_25 x_13).bind fun x_29 => (if i1 = 0 then (if ¬ ((0 : Int32) < 0 ∨ x_1.2 ≤ (0 : Int32).toNatClampNeg) then (if ¬ ((1 : Int32) < 0 ∨ x_1.2 ≤ (1 : Int32).toNatClampNeg) then ((fX8_steps gwk gwg gwan gwak gwaG gwbn gwbk gwbG).bind fun x_36 => ((fX9_beatsOf gwr gwc gws (x_1.1 (0 : Int32).toNatClampNeg) (x_1.1 (1 : Int32).toNatClampNeg) x_36).bind fun x_40 => some x_40)) else none) else none) else (if i1 = 1 then (if ¬ ((0 : Int32) < 0 ∨ x_1.2 ≤ (0 : Int32).toNatClampNeg) then some (x_1.1 (0 : Int32).toNatClampNeg) else none) else (if i1 = 2 then (if ¬ ((1 : Int32) < 0 ∨ x_1.2 ≤ (1 : Int32).toNatClampNeg) then some (x_1.1 (1 : Int32).toNatClampNeg) else none) else (if i1 = 3 then some (x_21 * x_29) else ((fX8_steps gwk gwg gwan gwak gwaG gwbn gwbk gwbG).bind fun x_49 => ((fX8_rows gwr gws).bind fun x_53 => ((fX8_columns gwc gws).bind fun x_57 => some (x_49 * ((x_53 * x_29) + (x_57 * x_21))))))))))))))) else none)) else none)))
set_option maxHeartbeats 4000000 in
set_option maxRecDepth 100000 in
theorem kX9_bestTold_r (l : Launch) (D : va_G) (cy : Nat → ClassId) (g : Nat) (gth : Int32) (gw : Nat) (gB : Nat) (gK : Nat) (gU : Nat) (gS : Nat) (gbe : Int32) (gwo : Int32) (gta : Int64) (gn : Nat) (glr : Int32) (glc : Int32) (gti : Int32) (ggo : Int32) (gR : Nat) (gch : Int32) (gD : Nat) (gwr : Int32) (gwk : Int32) (gwc : Int32) (gwg : Int32) (gws : Int32) (gwa : Nat) (gwb : Nat) (gwad : Nat → Nat) (gwan : Nat) (gwak : Nat) (gwaG : Nat → Nat → Int32) (gwbd : Nat → Nat) (gwbn : Nat) (gwbk : Nat) (gwbG : Nat → Nat → Int32) (gKd : Nat → Nat) (gKG : Nat → Nat → Int32) (i1 : Int32) {res : Int32} (hR : fX9_bestTold_r gwr gwk gwc gwg gws gwan gwak gwaG gwbn gwbk gwbG gKG i1 = some res) : YM l D cy yX9_bestTold hX9_bestTold 5 30 60 [.ref g, .int i1] [[(g, .inr (11, [.int gth, .ref gw, .ref gB, .ref gK, .ref gU, .ref gS, .int gbe, .int gwo, .long gta, .ref gn, .int glr, .int glc, .int gti, .int ggo, .ref gR, .int gch, .ref gD]))], [(gw, .inr (10, [.int gwr, .int gwk, .int gwc, .int gwg, .int gws, .ref gwa, .ref gwb]))], [(gwa, .inl (cy 3, gwan, .inr (.inr (.inr (.inr (yad gwad))))))], xg_rows gwad gwan (cy 1) gwak gwaG, [(gwb, .inl (cy 3, gwbn, .inr (.inr (.inr (.inr (yad gwbd))))))], xg_rows gwbd gwbn (cy 1) gwbk gwbG, [(gK, .inl (cy 4, 5, .inr (.inr (.inr (.inr (yad gKd))))))], xg_rows gKd 5 (cy 2) 5 gKG] (fun v u => v = some (.int res) ∧ u = [[(g, .inr (11, [.int gth, .ref gw, .ref gB, .ref gK, .ref gU, .ref gS, .int gbe, .int gwo, .long gta, .ref gn, .int glr, .int glc, .int gti, .int ggo, .ref gR, .int gch, .ref gD]))], [(gw, .inr (10, [.int gwr, .int gwk, .int gwc, .int gwg, .int gws, .ref gwa, .ref gwb]))], [(gwa, .inl (cy 3, gwan, .inr (.inr (.inr (.inr (yad gwad))))))], xg_rows gwad gwan (cy 1) gwak gwaG, [(gwb, .inl (cy 3, gwbn, .inr (.inr (.inr (.inr (yad gwbd))))))], xg_rows gwbd gwbn (cy 1) gwbk gwbG, [(gK, .inl (cy 4, 5, .inr (.inr (.inr (.inr (yad gKd))))))], xg_rows gKd 5 (cy 2) 5 gKG]) := by
  unfold fX9_bestTold_r at hR
  refine YM.ofI (cc := cX9_bestTold) (maxL := 7) (ret := (some .int)) (by decide +kernel) rfl (Nat.le_of_ble_eq_true rfl) [(0, .ref g), (1, .int i1)] rfl rfl (fun p e s m args below meth c A H0 Q C hnm ret => ?_)
  refine xr_aload_n (n := 1) (j := 0) C dd_X9_bestTold_0.1 rfl rfl ?_
  obtain ⟨x_1, hx_1, hR⟩ := yf_b hR
  refine xr_callV (n := 4) (As := []) (rest := []) C (kX9_bestLayout_r l D cy (g := g) (gth := gth) (gw := gw) (gB := gB) (gK := gK) (gU := gU) (gS := gS) (gbe := gbe) (gwo := gwo) (gta := gta) (gn := gn) (glr := glr) (glc := glc) (gti := gti) (ggo := ggo) (gR := gR) (gch := gch) (gD := gD) (gwr := gwr) (gwk := gwk) (gwc := gwc) (gwg := gwg) (gws := gws) (gwa := gwa) (gwb := gwb) (gwad := gwad) (gwan := gwan) (gwak := gwak) (gwaG := gwaG) (gwbd := gwbd) (gwbn := gwbn) (gwbk := gwbk) (gwbG := gwbG) (gKd := gKd) (gKG := gKG) hx_1) mX9_bestLayout u_1355 u_1357 u_32 0 rfl rfl 8 [0, 1, 2, 3, 4, 5, 6, 7] [] rfl (by decide +kernel) rfl rfl rfl rfl (Nat.le_of_ble_eq_true rfl) (Nat.le_of_ble_eq_true rfl) (Nat.le_of_ble_eq_true rfl) (Nat.le_of_ble_eq_true rfl) (Nat.le_of_ble_eq_true rfl) dd_X9_bestTold_0.2.1 rfl (fun v_2 u_3 hp_4 => ?_)
  obtain ⟨q_5, rfl, rfl⟩ := hp_4
  refine xr_perm C 9 [0, 1, 2, 3, 4, 5, 6, 7, 8] [] [[(g, .inr (11, [.int gth, .ref gw, .ref gB, .ref gK, .ref gU, .ref gS, .int gbe, .int gwo, .long gta, .ref gn, .int glr, .int glc, .int gti, .int ggo, .ref gR, .int gch, .ref gD]))], [(gw, .inr (10, [.int gwr, .int gwk, .int gwc, .int gwg, .int gws, .ref gwa, .ref gwb]))], [(gwa, .inl (cy 3, gwan, .inr (.inr (.inr (.inr (yad gwad))))))], xg_rows gwad gwan (cy 1) gwak gwaG, [(gwb, .inl (cy 3, gwbn, .inr (.inr (.inr (.inr (yad gwbd))))))], xg_rows gwbd gwbn (cy 1) gwbk gwbG, [(gK, .inl (cy 4, 5, .inr (.inr (.inr (.inr (yad gKd))))))], xg_rows gKd 5 (cy 2) 5 gKG, [(q_5, .inl (cy 1, x_1.2, .inl x_1.1))]] rfl (by decide +kernel) rfl ?_
  refine xr_st (st' := [.ref q_5]) rfl ?_
  refine xr_astore_n (n := 5) C [(2, .ref q_5), (0, .ref g), (1, .int i1)] dd_X9_bestTold_0.2.2.1 (by decide) rfl rfl ?_
  refine xr_aload_n (n := 6) (j := 0) C dd_X9_bestTold_0.2.2.2.1 rfl rfl ?_
  refine xr_alen (n := 7) C 8 0 rfl 1 rfl rfl dd_X9_bestTold_0.2.2.2.2.1 rfl ?_
  refine xr_if_ne (tgt := 12) (n := 10) C dd_X9_bestTold_0.2.2.2.2.2.1 rfl rfl (fun c_6 => ?_) (fun c_6 => ?_)
  · replace hR := yf_f c_6 hR
    refine xr_aload_n (n := 13) (j := 0) C dd_X9_bestTold_0.2.2.2.2.2.2.2.2.1 rfl rfl ?_
    refine xr_iconst (n := 14) (v := 0) C dd_X9_bestTold_0.2.2.2.2.2.2.2.2.2.1 rfl rfl ?_
    obtain ⟨g_7, hR⟩ := yf_g hR
    refine xr_iald (n := 15) C 8 0 rfl rfl g_7 dd_X9_bestTold_0.2.2.2.2.2.2.2.2.2.2.1 rfl ?_
    obtain ⟨x_8, hx_8, hR⟩ := yf_b hR
    refine xr_callSp (n := 18) (As := [.int (x_1.1 (0 : Int32).toNatClampNeg)]) (rest := []) C (kJ6_bitCount_0f7a4 l D cy (i1 := x_1.1 (0 : Int32).toNatClampNeg) hx_8) mJ6_bitCount_0f7a4 u_1383 u_349 9 [] [0, 1, 2, 3, 4, 5, 6, 7, 8] rfl (by decide +kernel) rfl rfl rfl rfl (Nat.le_of_ble_eq_true rfl) (Nat.le_of_ble_eq_true rfl) (Nat.le_of_ble_eq_true rfl) (Nat.le_of_ble_eq_true rfl) (Nat.le_of_ble_eq_true rfl) dd_X9_bestTold_0.2.2.2.2.2.2.2.2.2.2.2.1 rfl (fun _ _ hp => hp.2) (fun v_9 hp_11 => ?_)
    obtain ⟨rfl, -⟩ := hp_11
    refine xr_st (st' := [.int x_8]) rfl ?_
    refine xr_istore_n (n := 19) C [(3, .int x_8), (2, .ref q_5), (0, .ref g), (1, .int i1)] dd_X9_bestTold_0.2.2.2.2.2.2.2.2.2.2.2.2.1 (by decide) rfl rfl ?_
    refine xr_aload_n (n := 20) (j := 1) C dd_X9_bestTold_0.2.2.2.2.2.2.2.2.2.2.2.2.2.1 rfl rfl ?_
    refine xr_iconst (n := 21) (v := 1) C dd_X9_bestTold_0.2.2.2.2.2.2.2.2.2.2.2.2.2.2.1 rfl rfl ?_
    obtain ⟨g_12, hR⟩ := yf_g hR
    refine xr_iald (n := 22) C 8 0 rfl rfl g_12 dd_X9_bestTold_0.2.2.2.2.2.2.2.2.2.2.2.2.2.2.2.1 rfl ?_
    obtain ⟨x_13, hx_13, hR⟩ := yf_b hR
    refine xr_callSp (n := 25) (As := [.int (x_1.1 (1 : Int32).toNatClampNeg)]) (rest := []) C (kJ6_bitCount_0f7a4 l D cy (i1 := x_1.1 (1 : Int32).toNatClampNeg) hx_13) mJ6_bitCount_0f7a4 u_1383 u_349 9 [] [0, 1, 2, 3, 4, 5, 6, 7, 8] rfl (by decide +kernel) rfl rfl rfl rfl (Nat.le_of_ble_eq_true rfl) (Nat.le_of_ble_eq_true rfl) (Nat.le_of_ble_eq_true rfl) (Nat.le_of_ble_eq_true rfl) (Nat.le_of_ble_eq_true rfl) dd_X9_bestTold_1.1 rfl (fun _ _ hp => hp.2) (fun v_14 hp_16 => ?_)
    obtain ⟨rfl, -⟩ := hp_16
    refine xr_st (st' := [.int x_13]) rfl ?_
    refine xr_istore (n := 27) C [(4, .int x_13), (3, .int x_8), (2, .ref q_5), (0, .ref g), (1, .int i1)] dd_X9_bestTold_1.2.1 (by decide) rfl rfl ?_
    refine xr_aload_n (n := 28) (j := 3) C dd_X9_bestTold_1.2.2.1 rfl rfl ?_
    refine xr_get (n := 31) C 0 rfl rfl 1 (by decide) in_X9 u_1238 rfl (v := .ref gw) rfl dd_X9_bestTold_1.2.2.2.1 rfl ?_
    obtain ⟨x_17, hx_17, hR⟩ := yf_b hR
    refine xr_callVp (n := 34) (As := []) (rest := []) C (kX8_rows l D cy (w := gw) (wr := gwr) (wk := gwk) (wc := gwc) (wg := gwg) (ws := gws) (wa := gwa) (wb := gwb) hx_17) mX8_rows u_1384 u_1385 u_1386 1 rfl rfl 9 [1] [0, 2, 3, 4, 5, 6, 7, 8] rfl (by decide +kernel) rfl rfl rfl rfl (Nat.le_of_ble_eq_true rfl) (Nat.le_of_ble_eq_true rfl) (Nat.le_of_ble_eq_true rfl) (Nat.le_of_ble_eq_true rfl) (Nat.le_of_ble_eq_true rfl) dd_X9_bestTold_1.2.2.2.2.1 rfl (fun _ _ hp => hp.2) (fun v_18 hp_20 => ?_)
    obtain ⟨rfl, -⟩ := hp_20
    refine xr_st (st' := [.int x_17]) rfl ?_
    refine xr_iload_n (n := 35) (j := 1) C dd_X9_bestTold_1.2.2.2.2.2.1 rfl rfl ?_
    obtain ⟨x_21, hx_21, hR⟩ := yf_b hR
    refine xr_callSp (n := 38) (As := [.int x_17, .int x_8]) (rest := []) C (kX9_tiles l D cy (i1 := x_17) (i2 := x_8) hx_21) mX9_tiles u_1388 u_1389 9 [] [0, 1, 2, 3, 4, 5, 6, 7, 8] rfl (by decide +kernel) rfl rfl rfl rfl (Nat.le_of_ble_eq_true rfl) (Nat.le_of_ble_eq_true rfl) (Nat.le_of_ble_eq_true rfl) (Nat.le_of_ble_eq_true rfl) (Nat.le_of_ble_eq_true rfl) dd_X9_bestTold_1.2.2.2.2.2.2.1 rfl (fun _ _ hp => hp.2) (fun v_22 hp_24 => ?_)
    obtain ⟨rfl, -⟩ := hp_24
    refine xr_st (st' := [.int x_21]) rfl ?_
    refine xr_istore (n := 40) C [(5, .int x_21), (4, .int x_13), (3, .int x_8), (2, .ref q_5), (0, .ref g), (1, .int i1)] dd_X9_bestTold_1.2.2.2.2.2.2.2.1 (by decide) rfl rfl ?_
    refine xr_aload_n (n := 41) (j := 4) C dd_X9_bestTold_1.2.2.2.2.2.2.2.2.1 rfl rfl ?_
    refine xr_get (n := 44) C 0 rfl rfl 1 (by decide) in_X9 u_1238 rfl (v := .ref gw) rfl dd_X9_bestTold_1.2.2.2.2.2.2.2.2.2.1 rfl ?_
    obtain ⟨x_25, hx_25, hR⟩ := yf_b hR
    refine xr_callVp (n := 47) (As := []) (rest := []) C (kX8_columns l D cy (w := gw) (wr := gwr) (wk := gwk) (wc := gwc) (wg := gwg) (ws := gws) (wa := gwa) (wb := gwb) hx_25) mX8_columns u_1391 u_1392 u_1393 1 rfl rfl 9 [1] [0, 2, 3, 4, 5, 6, 7, 8] rfl (by decide +kernel) rfl rfl rfl rfl (Nat.le_of_ble_eq_true rfl) (Nat.le_of_ble_eq_true rfl) (Nat.le_of_ble_eq_true rfl) (Nat.le_of_ble_eq_true rfl) (Nat.le_of_ble_eq_true rfl) dd_X9_bestTold_1.2.2.2.2.2.2.2.2.2.2.1 rfl (fun _ _ hp => hp.2) (fun v_26 hp_28 => ?_)
    obtain ⟨rfl, -⟩ := hp_28
    refine xr_st (st' := [.int x_25]) rfl ?_
    refine xr_iload (n := 49) (j := 1) C dd_X9_bestTold_1.2.2.2.2.2.2.2.2.2.2.2.1 rfl rfl ?_
    obtain ⟨x_29, hx_29, hR⟩ := yf_b hR
    refine xr_callSp (n := 52) (As := [.int x_25, .int x_13]) (rest := []) C (kX9_tiles l D cy (i1 := x_25) (i2 := x_13) hx_29) mX9_tiles u_1388 u_1389 9 [] [0, 1, 2, 3, 4, 5, 6, 7, 8] rfl (by decide +kernel) rfl rfl rfl rfl (Nat.le_of_ble_eq_true rfl) (Nat.le_of_ble_eq_true rfl) (Nat.le_of_ble_eq_true rfl) (Nat.le_of_ble_eq_true rfl) (Nat.le_of_ble_eq_true rfl) dd_X9_bestTold_1.2.2.2.2.2.2.2.2.2.2.2.2.1 rfl (fun _ _ hp => hp.2) (fun v_30 hp_32 => ?_)
    obtain ⟨rfl, -⟩ := hp_32
    refine xr_st (st' := [.int x_29]) rfl ?_
    refine xr_istore (n := 54) C [(6, .int x_29), (5, .int x_21), (4, .int x_13), (3, .int x_8), (2, .ref q_5), (0, .ref g), (1, .int i1)] dd_X9_bestTold_1.2.2.2.2.2.2.2.2.2.2.2.2.2.1 (by decide) rfl rfl ?_
    refine xr_iload_n (n := 55) (j := 6) C dd_X9_bestTold_1.2.2.2.2.2.2.2.2.2.2.2.2.2.2.1 rfl rfl ?_
    by_cases c_33 : i1 = 0
    · replace hR := yf_t c_33 hR
      refine xr_tableIn (off := 29) (tgt := 84) C dX9_bestTold_55 (by rw [c_33]; decide) (by rw [c_33]; decide) (by rw [c_33]; decide) rfl ?_
      refine xr_aload_n (n := 85) (j := 5) C dd_X9_bestTold_1.2.2.2.2.2.2.2.2.2.2.2.2.2.2.2.1 rfl rfl ?_
      refine xr_get (n := 88) C 0 rfl rfl 1 (by decide) in_X9 u_1238 rfl (v := .ref gw) rfl dd_X9_bestTold_2.1 rfl ?_
      refine xr_aload_n (n := 89) (j := 4) C dd_X9_bestTold_2.2.1 rfl rfl ?_
      refine xr_iconst (n := 90) (v := 0) C dd_X9_bestTold_2.2.2.1 rfl rfl ?_
      obtain ⟨g_34, hR⟩ := yf_g hR
      refine xr_iald (n := 91) C 8 0 rfl rfl g_34 dd_X9_bestTold_2.2.2.2.1 rfl ?_
      refine xr_aload_n (n := 92) (j := 4) C dd_X9_bestTold_2.2.2.2.2.1 rfl rfl ?_
      refine xr_iconst (n := 93) (v := 1) C dd_X9_bestTold_2.2.2.2.2.2.1 rfl rfl ?_
      obtain ⟨g_35, hR⟩ := yf_g hR
      refine xr_iald (n := 94) C 8 0 rfl rfl g_35 dd_X9_bestTold_2.2.2.2.2.2.2.1 rfl ?_
      refine xr_aload_n (n := 95) (j := 5) C dd_X9_bestTold_2.2.2.2.2.2.2.2.1 rfl rfl ?_
      refine xr_get (n := 98) C 0 rfl rfl 1 (by decide) in_X9 u_1238 rfl (v := .ref gw) rfl dd_X9_bestTold_2.2.2.2.2.2.2.2.2.1 rfl ?_
      obtain ⟨x_36, hx_36, hR⟩ := yf_b hR
      refine xr_callVp (n := 101) (As := []) (rest := [.int (x_1.1 (1 : Int32).toNatClampNeg), .int (x_1.1 (0 : Int32).toNatClampNeg), .ref gw]) C (kX8_steps l D cy (w := gw) (wr := gwr) (wk := gwk) (wc := gwc) (wg := gwg) (ws := gws) (wa := gwa) (wb := gwb) (wad := gwad) (wan := gwan) (wak := gwak) (waG := gwaG) (wbd := gwbd) (wbn := gwbn) (wbk := gwbk) (wbG := gwbG) hx_36) mX8_steps u_1359 u_1360 u_1361 1 rfl rfl 9 [1, 2, 3, 4, 5] [0, 6, 7, 8] rfl (by decide +kernel) rfl rfl rfl rfl (Nat.le_of_ble_eq_true rfl) (Nat.le_of_ble_eq_true rfl) (Nat.le_of_ble_eq_true rfl) (Nat.le_of_ble_eq_true rfl) (Nat.le_of_ble_eq_true rfl) dd_X9_bestTold_2.2.2.2.2.2.2.2.2.2.1 rfl (fun _ _ hp => hp.2) (fun v_37 hp_39 => ?_)
      obtain ⟨rfl, -⟩ := hp_39
      refine xr_st (st' := [.int x_36, .int (x_1.1 (1 : Int32).toNatClampNeg), .int (x_1.1 (0 : Int32).toNatClampNeg), .ref gw]) rfl ?_
      obtain ⟨x_40, hx_40, hR⟩ := yf_b hR
      refine xr_callSp (n := 104) (As := [.ref gw, .int (x_1.1 (0 : Int32).toNatClampNeg), .int (x_1.1 (1 : Int32).toNatClampNeg), .int x_36]) (rest := []) C (kX9_beatsOf l D cy (w := gw) (wr := gwr) (wk := gwk) (wc := gwc) (wg := gwg) (ws := gws) (wa := gwa) (wb := gwb) (i1 := x_1.1 (0 : Int32).toNatClampNeg) (i2 := x_1.1 (1 : Int32).toNatClampNeg) (i3 := x_36) hx_40) mX9_beatsOf u_1380 u_1381 9 [1] [0, 2, 3, 4, 5, 6, 7, 8] rfl (by decide +kernel) rfl rfl rfl rfl (Nat.le_of_ble_eq_true rfl) (Nat.le_of_ble_eq_true rfl) (Nat.le_of_ble_eq_true rfl) (Nat.le_of_ble_eq_true rfl) (Nat.le_of_ble_eq_true rfl) dd_X9_bestTold_2.2.2.2.2.2.2.2.2.2.2.1 rfl (fun _ _ hp => hp.2) (fun v_41 hp_43 => ?_)
      obtain ⟨rfl, -⟩ := hp_43
      refine xr_st (st' := [.int x_40]) rfl ?_
      obtain rfl := Option.some.inj hR
      refine xr_perm C 9 [0, 1, 2, 3, 4, 5, 6, 7] [8] [[(g, .inr (11, [.int gth, .ref gw, .ref gB, .ref gK, .ref gU, .ref gS, .int gbe, .int gwo, .long gta, .ref gn, .int glr, .int glc, .int gti, .int ggo, .ref gR, .int gch, .ref gD]))], [(gw, .inr (10, [.int gwr, .int gwk, .int gwc, .int gwg, .int gws, .ref gwa, .ref gwb]))], [(gwa, .inl (cy 3, gwan, .inr (.inr (.inr (.inr (yad gwad))))))], xg_rows gwad gwan (cy 1) gwak gwaG, [(gwb, .inl (cy 3, gwbn, .inr (.inr (.inr (.inr (yad gwbd))))))], xg_rows gwbd gwbn (cy 1) gwbk gwbG, [(gK, .inl (cy 4, 5, .inr (.inr (.inr (.inr (yad gKd))))))], xg_rows gKd 5 (cy 2) 5 gKG] rfl (by decide +kernel) rfl ?_
      exact ret x_40 ⟨rfl, rfl⟩ (Nat.le_of_ble_eq_true rfl) (Nat.le_of_ble_eq_true rfl) dd_X9_bestTold_2.2.2.2.2.2.2.2.2.2.2.2.1
    replace hR := yf_f c_33 hR
    by_cases c_44 : i1 = 1
    · replace hR := yf_t c_44 hR
      refine xr_tableIn (off := 50) (tgt := 105) C dX9_bestTold_55 (by rw [c_44]; decide) (by rw [c_44]; decide) (by rw [c_44]; decide) rfl ?_
      refine xr_aload_n (n := 106) (j := 4) C dd_X9_bestTold_2.2.2.2.2.2.2.2.2.2.2.2.2.1 rfl rfl ?_
      refine xr_iconst (n := 107) (v := 0) C dd_X9_bestTold_2.2.2.2.2.2.2.2.2.2.2.2.2.2.1 rfl rfl ?_
      obtain ⟨g_45, hR⟩ := yf_g hR
      refine xr_iald (n := 108) C 8 0 rfl rfl g_45 dd_X9_bestTold_2.2.2.2.2.2.2.2.2.2.2.2.2.2.2.1 rfl ?_
      obtain rfl := Option.some.inj hR
      refine xr_perm C 9 [0, 1, 2, 3, 4, 5, 6, 7] [8] [[(g, .inr (11, [.int gth, .ref gw, .ref gB, .ref gK, .ref gU, .ref gS, .int gbe, .int gwo, .long gta, .ref gn, .int glr, .int glc, .int gti, .int ggo, .ref gR, .int gch, .ref gD]))], [(gw, .inr (10, [.int gwr, .int gwk, .int gwc, .int gwg, .int gws, .ref gwa, .ref gwb]))], [(gwa, .inl (cy 3, gwan, .inr (.inr (.inr (.inr (yad gwad))))))], xg_rows gwad gwan (cy 1) gwak gwaG, [(gwb, .inl (cy 3, gwbn, .inr (.inr (.inr (.inr (yad gwbd))))))], xg_rows gwbd gwbn (cy 1) gwbk gwbG, [(gK, .inl (cy 4, 5, .inr (.inr (.inr (.inr (yad gKd))))))], xg_rows gKd 5 (cy 2) 5 gKG] rfl (by decide +kernel) rfl ?_
      exact ret (x_1.1 (0 : Int32).toNatClampNeg) ⟨rfl, rfl⟩ (Nat.le_of_ble_eq_true rfl) (Nat.le_of_ble_eq_true rfl) dd_X9_bestTold_2.2.2.2.2.2.2.2.2.2.2.2.2.2.2.2.1
    replace hR := yf_f c_44 hR
    by_cases c_46 : i1 = 2
    · replace hR := yf_t c_46 hR
      refine xr_tableIn (off := 54) (tgt := 109) C dX9_bestTold_55 (by rw [c_46]; decide) (by rw [c_46]; decide) (by rw [c_46]; decide) rfl ?_
      refine xr_aload_n (n := 110) (j := 4) C dd_X9_bestTold_3.1 rfl rfl ?_
      refine xr_iconst (n := 111) (v := 1) C dd_X9_bestTold_3.2.1 rfl rfl ?_
      obtain ⟨g_47, hR⟩ := yf_g hR
      refine xr_iald (n := 112) C 8 0 rfl rfl g_47 dd_X9_bestTold_3.2.2.1 rfl ?_
      obtain rfl := Option.some.inj hR
      refine xr_perm C 9 [0, 1, 2, 3, 4, 5, 6, 7] [8] [[(g, .inr (11, [.int gth, .ref gw, .ref gB, .ref gK, .ref gU, .ref gS, .int gbe, .int gwo, .long gta, .ref gn, .int glr, .int glc, .int gti, .int ggo, .ref gR, .int gch, .ref gD]))], [(gw, .inr (10, [.int gwr, .int gwk, .int gwc, .int gwg, .int gws, .ref gwa, .ref gwb]))], [(gwa, .inl (cy 3, gwan, .inr (.inr (.inr (.inr (yad gwad))))))], xg_rows gwad gwan (cy 1) gwak gwaG, [(gwb, .inl (cy 3, gwbn, .inr (.inr (.inr (.inr (yad gwbd))))))], xg_rows gwbd gwbn (cy 1) gwbk gwbG, [(gK, .inl (cy 4, 5, .inr (.inr (.inr (.inr (yad gKd))))))], xg_rows gKd 5 (cy 2) 5 gKG] rfl (by decide +kernel) rfl ?_
      exact ret (x_1.1 (1 : Int32).toNatClampNeg) ⟨rfl, rfl⟩ (Nat.le_of_ble_eq_true rfl) (Nat.le_of_ble_eq_true rfl) dd_X9_bestTold_3.2.2.2.1
    replace hR := yf_f c_46 hR
    by_cases c_48 : i1 = 3
    · replace hR := yf_t c_48 hR
      refine xr_tableIn (off := 58) (tgt := 113) C dX9_bestTold_55 (by rw [c_48]; decide) (by rw [c_48]; decide) (by rw [c_48]; decide) rfl ?_
      refine xr_iload (n := 115) (j := 1) C dd_X9_bestTold_3.2.2.2.2.1 rfl rfl ?_
      refine xr_iload (n := 117) (j := 0) C dd_X9_bestTold_3.2.2.2.2.2.1 rfl rfl ?_
      refine xr_imul (n := 118) C dd_X9_bestTold_3.2.2.2.2.2.2.1 rfl ?_
      obtain rfl := Option.some.inj hR
      refine xr_perm C 9 [0, 1, 2, 3, 4, 5, 6, 7] [8] [[(g, .inr (11, [.int gth, .ref gw, .ref gB, .ref gK, .ref gU, .ref gS, .int gbe, .int gwo, .long gta, .ref gn, .int glr, .int glc, .int gti, .int ggo, .ref gR, .int gch, .ref gD]))], [(gw, .inr (10, [.int gwr, .int gwk, .int gwc, .int gwg, .int gws, .ref gwa, .ref gwb]))], [(gwa, .inl (cy 3, gwan, .inr (.inr (.inr (.inr (yad gwad))))))], xg_rows gwad gwan (cy 1) gwak gwaG, [(gwb, .inl (cy 3, gwbn, .inr (.inr (.inr (.inr (yad gwbd))))))], xg_rows gwbd gwbn (cy 1) gwbk gwbG, [(gK, .inl (cy 4, 5, .inr (.inr (.inr (.inr (yad gKd))))))], xg_rows gKd 5 (cy 2) 5 gKG] rfl (by decide +kernel) rfl ?_
      exact ret (x_21 * x_29) ⟨rfl, rfl⟩ (Nat.le_of_ble_eq_true rfl) (Nat.le_of_ble_eq_true rfl) dd_X9_bestTold_3.2.2.2.2.2.2.2.1
    replace hR := yf_f c_48 hR
    refine xr_tableOut (tgt := 119) C dX9_bestTold_55 (ytab_out (fun k h1 h2 => by
      rcases (show k = 0 ∨ k = 1 ∨ k = 2 ∨ k = 3 by omega) with rfl | rfl | rfl | rfl
      · exact c_33
      · exact c_44
      · exact c_46
      · exact c_48)) rfl ?_
    refine xr_aload_n (n := 120) (j := 5) C dd_X9_bestTold_3.2.2.2.2.2.2.2.2.1 rfl rfl ?_
    refine xr_get (n := 123) C 0 rfl rfl 1 (by decide) in_X9 u_1238 rfl (v := .ref gw) rfl dd_X9_bestTold_3.2.2.2.2.2.2.2.2.2.1 rfl ?_
    obtain ⟨x_49, hx_49, hR⟩ := yf_b hR
    refine xr_callVp (n := 126) (As := []) (rest := []) C (kX8_steps l D cy (w := gw) (wr := gwr) (wk := gwk) (wc := gwc) (wg := gwg) (ws := gws) (wa := gwa) (wb := gwb) (wad := gwad) (wan := gwan) (wak := gwak) (waG := gwaG) (wbd := gwbd) (wbn := gwbn) (wbk := gwbk) (wbG := gwbG) hx_49) mX8_steps u_1359 u_1360 u_1361 1 rfl rfl 9 [1, 2, 3, 4, 5] [0, 6, 7, 8] rfl (by decide +kernel) rfl rfl rfl rfl (Nat.le_of_ble_eq_true rfl) (Nat.le_of_ble_eq_true rfl) (Nat.le_of_ble_eq_true rfl) (Nat.le_of_ble_eq_true rfl) (Nat.le_of_ble_eq_true rfl) dd_X9_bestTold_3.2.2.2.2.2.2.2.2.2.2.1 rfl (fun _ _ hp => hp.2) (fun v_50 hp_52 => ?_)
    obtain ⟨rfl, -⟩ := hp_52
    refine xr_st (st' := [.int x_49]) rfl ?_
    refine xr_aload_n (n := 127) (j := 5) C dd_X9_bestTold_3.2.2.2.2.2.2.2.2.2.2.2.1 rfl rfl ?_
    refine xr_get (n := 130) C 0 rfl rfl 1 (by decide) in_X9 u_1238 rfl (v := .ref gw) rfl dd_X9_bestTold_3.2.2.2.2.2.2.2.2.2.2.2.2.1 rfl ?_
    obtain ⟨x_53, hx_53, hR⟩ := yf_b hR
    refine xr_callVp (n := 133) (As := []) (rest := [.int x_49]) C (kX8_rows l D cy (w := gw) (wr := gwr) (wk := gwk) (wc := gwc) (wg := gwg) (ws := gws) (wa := gwa) (wb := gwb) hx_53) mX8_rows u_1384 u_1385 u_1386 1 rfl rfl 9 [1] [0, 2, 3, 4, 5, 6, 7, 8] rfl (by decide +kernel) rfl rfl rfl rfl (Nat.le_of_ble_eq_true rfl) (Nat.le_of_ble_eq_true rfl) (Nat.le_of_ble_eq_true rfl) (Nat.le_of_ble_eq_true rfl) (Nat.le_of_ble_eq_true rfl) dd_X9_bestTold_3.2.2.2.2.2.2.2.2.2.2.2.2.2.1 rfl (fun _ _ hp => hp.2) (fun v_54 hp_56 => ?_)
    obtain ⟨rfl, -⟩ := hp_56
    refine xr_st (st' := [.int x_53, .int x_49]) rfl ?_
    refine xr_iload (n := 135) (j := 0) C dd_X9_bestTold_3.2.2.2.2.2.2.2.2.2.2.2.2.2.2.1 rfl rfl ?_
    refine xr_imul (n := 136) C dd_X9_bestTold_3.2.2.2.2.2.2.2.2.2.2.2.2.2.2.2.1 rfl ?_
    refine xr_aload_n (n := 137) (j := 5) C dd_X9_bestTold_4.1 rfl rfl ?_
    refine xr_get (n := 140) C 0 rfl rfl 1 (by decide) in_X9 u_1238 rfl (v := .ref gw) rfl dd_X9_bestTold_4.2.1 rfl ?_
    obtain ⟨x_57, hx_57, hR⟩ := yf_b hR
    refine xr_callVp (n := 143) (As := []) (rest := [.int (x_53 * x_29), .int x_49]) C (kX8_columns l D cy (w := gw) (wr := gwr) (wk := gwk) (wc := gwc) (wg := gwg) (ws := gws) (wa := gwa) (wb := gwb) hx_57) mX8_columns u_1391 u_1392 u_1393 1 rfl rfl 9 [1] [0, 2, 3, 4, 5, 6, 7, 8] rfl (by decide +kernel) rfl rfl rfl rfl (Nat.le_of_ble_eq_true rfl) (Nat.le_of_ble_eq_true rfl) (Nat.le_of_ble_eq_true rfl) (Nat.le_of_ble_eq_true rfl) (Nat.le_of_ble_eq_true rfl) dd_X9_bestTold_4.2.2.1 rfl (fun _ _ hp => hp.2) (fun v_58 hp_60 => ?_)
    obtain ⟨rfl, -⟩ := hp_60
    refine xr_st (st' := [.int x_57, .int (x_53 * x_29), .int x_49]) rfl ?_
    refine xr_iload (n := 145) (j := 1) C dd_X9_bestTold_4.2.2.2.1 rfl rfl ?_
    refine xr_imul (n := 146) C dd_X9_bestTold_4.2.2.2.2.1 rfl ?_
    refine xr_iadd (n := 147) C dd_X9_bestTold_4.2.2.2.2.2.1 rfl ?_
    refine xr_imul (n := 148) C dd_X9_bestTold_4.2.2.2.2.2.2.1 rfl ?_
    obtain rfl := Option.some.inj hR
    refine xr_perm C 9 [0, 1, 2, 3, 4, 5, 6, 7] [8] [[(g, .inr (11, [.int gth, .ref gw, .ref gB, .ref gK, .ref gU, .ref gS, .int gbe, .int gwo, .long gta, .ref gn, .int glr, .int glc, .int gti, .int ggo, .ref gR, .int gch, .ref gD]))], [(gw, .inr (10, [.int gwr, .int gwk, .int gwc, .int gwg, .int gws, .ref gwa, .ref gwb]))], [(gwa, .inl (cy 3, gwan, .inr (.inr (.inr (.inr (yad gwad))))))], xg_rows gwad gwan (cy 1) gwak gwaG, [(gwb, .inl (cy 3, gwbn, .inr (.inr (.inr (.inr (yad gwbd))))))], xg_rows gwbd gwbn (cy 1) gwbk gwbG, [(gK, .inl (cy 4, 5, .inr (.inr (.inr (.inr (yad gKd))))))], xg_rows gKd 5 (cy 2) 5 gKG] rfl (by decide +kernel) rfl ?_
    exact ret (x_49 * ((x_53 * x_29) + (x_57 * x_21))) ⟨rfl, rfl⟩ (Nat.le_of_ble_eq_true rfl) (Nat.le_of_ble_eq_true rfl) dd_X9_bestTold_4.2.2.2.2.2.2.2.1
  · replace hR := yf_t c_6 hR
    refine xr_iconst (n := 11) (v := -1) C dd_X9_bestTold_0.2.2.2.2.2.2.1 rfl rfl ?_
    obtain rfl := Option.some.inj hR
    refine xr_perm C 9 [0, 1, 2, 3, 4, 5, 6, 7] [8] [[(g, .inr (11, [.int gth, .ref gw, .ref gB, .ref gK, .ref gU, .ref gS, .int gbe, .int gwo, .long gta, .ref gn, .int glr, .int glc, .int gti, .int ggo, .ref gR, .int gch, .ref gD]))], [(gw, .inr (10, [.int gwr, .int gwk, .int gwc, .int gwg, .int gws, .ref gwa, .ref gwb]))], [(gwa, .inl (cy 3, gwan, .inr (.inr (.inr (.inr (yad gwad))))))], xg_rows gwad gwan (cy 1) gwak gwaG, [(gwb, .inl (cy 3, gwbn, .inr (.inr (.inr (.inr (yad gwbd))))))], xg_rows gwbd gwbn (cy 1) gwbk gwbG, [(gK, .inl (cy 4, 5, .inr (.inr (.inr (.inr (yad gKd))))))], xg_rows gKd 5 (cy 2) 5 gKG] rfl (by decide +kernel) rfl ?_
    exact ret (-1) ⟨rfl, rfl⟩ (Nat.le_of_ble_eq_true rfl) (Nat.le_of_ble_eq_true rfl) dd_X9_bestTold_0.2.2.2.2.2.2.2.1
