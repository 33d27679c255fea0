theorem u_1193 : Cond.methodLink RX9 7 objectInit ∈ yU := yu_tables_1_5 177 (by decide +kernel) (by decide +kernel)
theorem u_1194 : Cond.classLink RX9 13 RX8 ∈ yU := yu_tables_1_5 178 (by decide +kernel) (by decide +kernel)
theorem u_1289 : Cond.arrayClass .boolean ∈ yU := yu_tables_1_6 33 (by decide +kernel) (by decide +kernel)
theorem u_1229 : Cond.classLink RX9 22 "[[Z" ∈ yU := yu_tables_1_5 213 (by decide +kernel) (by decide +kernel)
theorem u_1192 : Cond.code yX9_init cX9_init 1 none ∈ yU := yu_tables_1_5 176 (by decide +kernel) (by decide +kernel)
theorem u_555 : Cond.methodLink RX7 1 objectInit ∈ yU := yu_tables_1_3 19 (by decide +kernel) (by decide +kernel)
theorem u_554 : Cond.code yX7_init cX7_init 1 none ∈ yU := yu_tables_1_3 18 (by decide +kernel) (by decide +kernel)
theorem u_66 : Cond.initialized RX7 ∈ yU := yu_tables_1_1 10 (by decide +kernel) (by decide +kernel)
theorem u_1548 : Cond.classLink RX9 258 RJ4 ∈ yU := yu_tables_1_7 52 (by decide +kernel) (by decide +kernel)
theorem u_1549 : Cond.methodLink RX9 260 yJ4_init_da8c8 ∈ yU := yu_tables_1_7 53 (by decide +kernel) (by decide +kernel)
theorem u_1550 : Cond.methodLink RX9 261 yJ4_append_cf468 ∈ yU := yu_tables_1_7 54 (by decide +kernel) (by decide +kernel)
theorem u_1551 : Cond.methodLink RX9 265 yJ4_toString_0e30d ∈ yU := yu_tables_1_7 55 (by decide +kernel) (by decide +kernel)
theorem u_1546 : Cond.code yX9_row cX9_row 5 (some (.object "java/lang/String")) ∈ yU := yu_tables_1_7 50 (by decide +kernel) (by decide +kernel)
def fX9_digest_r (gbe : Int32) (gwo : Int32) (gta : Int64) (glr : Int32) (glc : Int32) (gti : Int32) (ggo : Int32) (gwr : Int32) (gwk : Int32) (gwc : Int32) (gwg : Int32) (gws : Int32) (gwan : Nat) (gwak : Nat) (gwaG : Nat → Nat → Int32) (gwbn : Nat) (gwbk : Nat) (gwbG : Nat → Nat → Int32) (gBG : Nat → Nat → Int32) (gKG : Nat → Nat → Int32) (gUG : Nat → Nat → Int32) (gSG : Nat → Nat → Int32) (gRn : Nat) (gRk : Nat) (gRG : Nat → Nat → Int32) (gnr : Int32) (gnk : Int32) (gnc : Int32) (gng : Int32) (gns : Int32) (gnan : Nat) (gnak : Nat) (gnaG : Nat → Nat → Int32) (gnbn : Nat) (gnbk : Nat) (gnbG : Nat → Nat → Int32) : Option (Int64 × Int32) := ((wl (S := Int64 × Int32) (B := Int64 × Int32) (fun s_1 => (if 16 ≤ s_1.2 then some (.inr (s_1.1, s_1.2)) else ((fX9_meshTold_r gbe gwo glr glc gti ggo gwr gwk gwc gwg gws gwan gwak gwaG gwbn gwbk gwbG gBG gKG gRn gRk gnr gnk gnc gng gns gnan gnak gnaG gnbn gnbk gnbG s_1.2).bind fun x_92 => ((fX9_add s_1.1 x_92.toInt64).bind fun x_96 => some (.inl (x_96, s_1.2 + 1)))))) yFuel (5659, 0)).bind fun b_1 => ((wl (S := Int64 × Int32) (B := Int64 × Int32) (fun s_2 => (if 5 ≤ s_2.2 then some (.inr (s_2.1, s_2.2)) else ((wl (S := Int64 × Int32) (B := Int64 × Int32) (fun s_76 => (if 5 ≤ s_76.2 then some (.inr (s_76.1, s_76.2)) else ((wl (S := Int64 × Int32) (B := Int64 × Int32) (fun s_79 => (if 4 ≤ s_79.2 then some (.inr (s_79.1, s_79.2)) else ((fX9_cellTold_r glr glc gti ggo gBG gKG gUG gSG gnr gnk gnc gng gns gnan gnak gnaG gnbn gnbk gnbG s_2.2 s_76.2 s_79.2).bind fun x_82 => ((fX9_add s_79.1 x_82.toInt64).bind fun x_86 => some (.inl (x_86, s_79.2 + 1)))))) yFuel (s_76.1, 0)).bind fun b_79 => some (.inl (b_79.1, s_76.2 + 1))))) yFuel (s_2.1, 0)).bind fun b_76 => some (.inl (b_76.1, s_2.2 + 1))))) yFuel (b_1.1, 0)).bind fun b_2 => ((wl (S := Int64 × Int32) (B := Int64 × Int32) (fun s_3 => (if (nI gRn) ≤ s_3.2 then some (.inr (s_3.1, s_3.2)) else (if ¬ (s_3.2 < 0 ∨ gRn ≤ s_3.2.toNatClampNeg) then ((wl (S := Int64 × Int32) (B := Int64 × Int32) (fun s_65 => (if (nI gRk) ≤ s_65.2 then some (.inr (s_65.1, s_65.2)) else (if ¬ (s_65.2 < 0 ∨ gRk ≤ s_65.2.toNatClampNeg) then (ylet (gRG s_3.2.toNatClampNeg s_65.2.toNatClampNeg : Int32) fun y_69 => ((fX9_add s_65.1 y_69.toInt64).bind fun x_70 => some (.inl (x_70, s_65.2 + 1)))) else none))) yFuel (s_3.1, 0)).bind fun b_65 => some (.inl (b_65.1, s_3.2 + 1))) else none))) yFuel (b_2.1, 0)).bind fun b_3 => ((wl (S := Int64 × Int32) (B := Int64 × Int32) (fun s_4 => ((fX8_rows gwr gws).bind fun x_41 => (if x_41 ≤ s_4.2 then some (.inr (s_4.1, s_4.2)) else ((wl (S := Int64 × Int32) (B := Int64 × Int32) (fun s_47 => ((fX8_columns gwc gws).bind fun x_48 => (if x_48 ≤ s_47.2 then some (.inr (s_47.1, s_47.2)) else ((fX8_plain gwr gwk gwc gwg gwan gwak gwaG gwbn gwbk gwbG s_4.2 s_47.2).bind fun x_54 => ((fX9_add s_47.1 x_54.toInt64).bind fun x_58 => some (.inl (x_58, s_47.2 + 1))))))) yFuel (s_4.1, 0)).bind fun b_47 => some (.inl (b_47.1, s_4.2 + 1)))))) yFuel (b_3.1, 0)).bind fun b_4 => ((wl (S := Int64 × Int32 × Nat × Nat) (B := Int64 × Int32 × Nat × Nat) (fun s_5 => (if s_5.2.2.1 ≤ 300 ∧ s_5.2.2.2 ≤ 600 then (if 5 ≤ s_5.2.1 then some (.inr (s_5.1, s_5.2.1, s_5.2.2.1, s_5.2.2.2)) else ((fX9_bestTold_r gwr gwk gwc gwg gws gwan gwak gwaG gwbn gwbk gwbG gKG s_5.2.1).bind fun x_32 => (if s_5.2.2.1 + 30 ≤ 300 ∧ s_5.2.2.2 + 60 ≤ 600 then ((fX9_add s_5.1 x_32.toInt64).bind fun x_37 => some (.inl (x_37, s_5.2.1 + 1, s_5.2.2.1 + 30, s_5.2.2.2 + 60))) else none))) else none)) yFuel (b_4.1, 0, 0, 0)).bind fun b_5 => (if b_5.2.2.1 ≤ 300 ∧ b_5.2.2.2 ≤ 600 then ((fX9_savedNow_r gwr gwk gwc gwg gws gwan gwak gwaG gwbn gwbk gwbG gKG).bind fun x_7 => (if b_5.2.2.1 + 60 ≤ 300 ∧ b_5.2.2.2 + 120 ≤ 600 then ((fX9_add b_5.1 x_7.toInt64).bind fun x_12 => ((fX9_isWhole_r gta glr glc gti ggo gwr gwk gwc gwg gws gwan gwak gwaG gwbn gwbk gwbG gBG gKG gUG gnr gnk gnc gng gns gnan gnak gnaG gnbn gnbk gnbG).bind fun x_16 => (if b_5.2.2.1 + 60 + 30 ≤ 300 ∧ b_5.2.2.2 + 120 + 60 ≤ 600 then ((fX9_one x_16).bind fun x_21 => ((fX9_add x_12 x_21.toInt64).bind fun x_25 => some (x_25, 0))) else none))) else none)) else none))))))
set_option maxHeartbeats 4000000 in
set_option maxRecDepth 100000 in
theorem kX9_digest_r (l : Launch) (D : va_G) (cy : Nat → ClassId) (g : Nat) (gth : Int32) (gw : Nat) (gB : Nat) (gK : Nat) (gU : Nat) (gS : Nat) (gbe : Int32) (gwo : Int32) (gta : Int64) (gn : Nat) (glr : Int32) (glc : Int32) (gti : Int32) (ggo : Int32) (gR : Nat) (gch : Int32) (gD : Nat) (gwr : Int32) (gwk : Int32) (gwc : Int32) (gwg : Int32) (gws : Int32) (gwa : Nat) (gwb : Nat) (gwad : Nat → Nat) (gwan : Nat) (gwak : Nat) (gwaG : Nat → Nat → Int32) (gwbd : Nat → Nat) (gwbn : Nat) (gwbk : Nat) (gwbG : Nat → Nat → Int32) (gBd : Nat → Nat) (gBG : Nat → Nat → Int32) (gKd : Nat → Nat) (gKG : Nat → Nat → Int32) (gUd : Nat → Nat) (gUG : Nat → Nat → Int32) (gSd : Nat → Nat) (gSG : Nat → Nat → Int32) (gRd : Nat → Nat) (gRn : Nat) (gRk : Nat) (gRG : Nat → Nat → Int32) (gnr : Int32) (gnk : Int32) (gnc : Int32) (gng : Int32) (gns : Int32) (gna : Nat) (gnb : Nat) (gnad : Nat → Nat) (gnan : Nat) (gnak : Nat) (gnaG : Nat → Nat → Int32) (gnbd : Nat → Nat) (gnbn : Nat) (gnbk : Nat) (gnbG : Nat → Nat → Int32) {res : Int64 × Int32} (hR : fX9_digest_r gbe gwo gta glr glc gti ggo gwr gwk gwc gwg gws gwan gwak gwaG gwbn gwbk gwbG gBG gKG gUG gSG gRn gRk gRG gnr gnk gnc gng gns gnan gnak gnaG gnbn gnbk gnbG = some res) : YM l D cy yX9_digest hX9_digest 7 300 600 [.ref g] [[(g, .inr (11, [.int gth, .ref gw, .ref gB, .ref gK, .ref gU, .ref gS, .int gbe, .int gwo, .long gta, .ref gn, .int glr, .int glc, .int gti, .int ggo, .ref gR, .int gch, .ref gD]))], [(gw, .inr (10, [.int gwr, .int gwk, .int gwc, .int gwg, .int gws, .ref gwa, .ref gwb]))], [(gwa, .inl (cy 3, gwan, .inr (.inr (.inr (.inr (yad gwad))))))], xg_rows gwad gwan (cy 1) gwak gwaG, [(gwb, .inl (cy 3, gwbn, .inr (.inr (.inr (.inr (yad gwbd))))))], xg_rows gwbd gwbn (cy 1) gwbk gwbG, [(gB, .inl (cy 4, 5, .inr (.inr (.inr (.inr (yad gBd))))))], xg_rows gBd 5 (cy 2) 5 gBG, [(gK, .inl (cy 4, 5, .inr (.inr (.inr (.inr (yad gKd))))))], xg_rows gKd 5 (cy 2) 5 gKG, [(gU, .inl (cy 3, 5, .inr (.inr (.inr (.inr (yad gUd))))))], xg_rows gUd 5 (cy 1) 5 gUG, [(gS, .inl (cy 3, 5, .inr (.inr (.inr (.inr (yad gSd))))))], xg_rows gSd 5 (cy 1) 5 gSG, [(gR, .inl (cy 3, gRn, .inr (.inr (.inr (.inr (yad gRd))))))], xg_rows gRd gRn (cy 1) gRk gRG, [(gn, .inr (10, [.int gnr, .int gnk, .int gnc, .int gng, .int gns, .ref gna, .ref gnb]))], [(gna, .inl (cy 3, gnan, .inr (.inr (.inr (.inr (yad gnad))))))], xg_rows gnad gnan (cy 1) gnak gnaG, [(gnb, .inl (cy 3, gnbn, .inr (.inr (.inr (.inr (yad gnbd))))))], xg_rows gnbd gnbn (cy 1) gnbk gnbG] (fun v u => v = some (.long res.1) ∧ u = [[(g, .inr (11, [.int res.2, .ref gw, .ref gB, .ref gK, .ref gU, .ref gS, .int gbe, .int gwo, .long gta, .ref gn, .int glr, .int glc, .int gti, .int ggo, .ref gR, .int gch, .ref gD]))], [(gw, .inr (10, [.int gwr, .int gwk, .int gwc, .int gwg, .int gws, .ref gwa, .ref gwb]))], [(gwa, .inl (cy 3, gwan, .inr (.inr (.inr (.inr (yad gwad))))))], xg_rows gwad gwan (cy 1) gwak gwaG, [(gwb, .inl (cy 3, gwbn, .inr (.inr (.inr (.inr (yad gwbd))))))], xg_rows gwbd gwbn (cy 1) gwbk gwbG, [(gB, .inl (cy 4, 5, .inr (.inr (.inr (.inr (yad gBd))))))], xg_rows gBd 5 (cy 2) 5 gBG, [(gK, .inl (cy 4, 5, .inr (.inr (.inr (.inr (yad gKd))))))], xg_rows gKd 5 (cy 2) 5 gKG, [(gU, .inl (cy 3, 5, .inr (.inr (.inr (.inr (yad gUd))))))], xg_rows gUd 5 (cy 1) 5 gUG, [(gS, .inl (cy 3, 5, .inr (.inr (.inr (.inr (yad gSd))))))], xg_rows gSd 5 (cy 1) 5 gSG, [(gR, .inl (cy 3, gRn, .inr (.inr (.inr (.inr (yad gRd))))))], xg_rows gRd gRn (cy 1) gRk gRG, [(gn, .inr (10, [.int gnr, .int gnk, .int gnc, .int gng, .int gns, .ref gna, .ref gnb]))], [(gna, .inl (cy 3, gnan, .inr (.inr (.inr (.inr (yad gnad))))))], xg_rows gnad gnan (cy 1) gnak gnaG, [(gnb, .inl (cy 3, gnbn, .inr (.inr (.inr (.inr (yad gnbd))))))], xg_rows gnbd gnbn (cy 1) gnbk gnbG]) := by
  unfold fX9_digest_r at hR
  refine YM.ofL (cc := cX9_digest) (maxL := 11) (ret := (some .long)) (by decide +kernel) rfl (Nat.le_of_ble_eq_true rfl) [(0, .ref g)] rfl rfl (fun p e s m args below meth c A H0 Q C hnm ret => ?_)
  refine xr_aload_n (n := 1) (j := 0) C dd_X9_digest_0.1 rfl rfl ?_
  refine xr_iconst (n := 2) (v := 0) C dd_X9_digest_0.2.1 rfl rfl ?_
  refine xr_put (n := 5) C 0 rfl rfl 0 (by decide) in_X9 tyX9 tyX9_ok nmX9 u_1237 rfl rfl rfl rfl (Nat.le_of_ble_eq_true rfl) [[(g, .inr (11, [.int 0, .ref gw, .ref gB, .ref gK, .ref gU, .ref gS, .int gbe, .int gwo, .long gta, .ref gn, .int glr, .int glc, .int gti, .int ggo, .ref gR, .int gch, .ref gD]))], [(gw, .inr (10, [.int gwr, .int gwk, .int gwc, .int gwg, .int gws, .ref gwa, .ref gwb]))], [(gwa, .inl (cy 3, gwan, .inr (.inr (.inr (.inr (yad gwad))))))], xg_rows gwad gwan (cy 1) gwak gwaG, [(gwb, .inl (cy 3, gwbn, .inr (.inr (.inr (.inr (yad gwbd))))))], xg_rows gwbd gwbn (cy 1) gwbk gwbG, [(gB, .inl (cy 4, 5, .inr (.inr (.inr (.inr (yad gBd))))))], xg_rows gBd 5 (cy 2) 5 gBG, [(gK, .inl (cy 4, 5, .inr (.inr (.inr (.inr (yad gKd))))))], xg_rows gKd 5 (cy 2) 5 gKG, [(gU, .inl (cy 3, 5, .inr (.inr (.inr (.inr (yad gUd))))))], xg_rows gUd 5 (cy 1) 5 gUG, [(gS, .inl (cy 3, 5, .inr (.inr (.inr (.inr (yad gSd))))))], xg_rows gSd 5 (cy 1) 5 gSG, [(gR, .inl (cy 3, gRn, .inr (.inr (.inr (.inr (yad gRd))))))], xg_rows gRd gRn (cy 1) gRk gRG, [(gn, .inr (10, [.int gnr, .int gnk, .int gnc, .int gng, .int gns, .ref gna, .ref gnb]))], [(gna, .inl (cy 3, gnan, .inr (.inr (.inr (.inr (yad gnad))))))], xg_rows gnad gnan (cy 1) gnak gnaG, [(gnb, .inl (cy 3, gnbn, .inr (.inr (.inr (.inr (yad gnbd))))))], xg_rows gnbd gnbn (cy 1) gnbk gnbG] rfl rfl dd_X9_digest_0.2.2.1 ?_
  refine xr_ldc2 (n := 8) (v := 5659) C u_1588 dd_X9_digest_0.2.2.2.1 rfl ?_
  refine xr_lstore_n (n := 9) C [(1, .long 5659), (0, .ref g)] dd_X9_digest_0.2.2.2.2.1 (by decide) rfl rfl ?_
  refine xr_iconst (n := 10) (v := 0) C dd_X9_digest_0.2.2.2.2.2.1 rfl rfl ?_
  refine xr_istore_n (n := 11) C [(3, .int 0), (1, .long 5659), (0, .ref g)] dd_X9_digest_0.2.2.2.2.2.2.1 (by decide) rfl rfl ?_
  refine xr_lv (lv' := [(0, .ref g), (1, .long 5659), (3, .int 0)]) [2, 1, 0] rfl ?_
  obtain ⟨b_1, hb_1, hR⟩ := yf_b hR
  have K_1 : X p l e (yR 7 300 600) s m args below meth c D A H0 11 Q [[(g, .inr (11, [.int 0, .ref gw, .ref gB, .ref gK, .ref gU, .ref gS, .int gbe, .int gwo, .long gta, .ref gn, .int glr, .int glc, .int gti, .int ggo, .ref gR, .int gch, .ref gD]))], [(gw, .inr (10, [.int gwr, .int gwk, .int gwc, .int gwg, .int gws, .ref gwa, .ref gwb]))], [(gwa, .inl (cy 3, gwan, .inr (.inr (.inr (.inr (yad gwad))))))], xg_rows gwad gwan (cy 1) gwak gwaG, [(gwb, .inl (cy 3, gwbn, .inr (.inr (.inr (.inr (yad gwbd))))))], xg_rows gwbd gwbn (cy 1) gwbk gwbG, [(gB, .inl (cy 4, 5, .inr (.inr (.inr (.inr (yad gBd))))))], xg_rows gBd 5 (cy 2) 5 gBG, [(gK, .inl (cy 4, 5, .inr (.inr (.inr (.inr (yad gKd))))))], xg_rows gKd 5 (cy 2) 5 gKG, [(gU, .inl (cy 3, 5, .inr (.inr (.inr (.inr (yad gUd))))))], xg_rows gUd 5 (cy 1) 5 gUG, [(gS, .inl (cy 3, 5, .inr (.inr (.inr (.inr (yad gSd))))))], xg_rows gSd 5 (cy 1) 5 gSG, [(gR, .inl (cy 3, gRn, .inr (.inr (.inr (.inr (yad gRd))))))], xg_rows gRd gRn (cy 1) gRk gRG, [(gn, .inr (10, [.int gnr, .int gnk, .int gnc, .int gng, .int gns, .ref gna, .ref gnb]))], [(gna, .inl (cy 3, gnan, .inr (.inr (.inr (.inr (yad gnad))))))], xg_rows gnad gnan (cy 1) gnak gnaG, [(gnb, .inl (cy 3, gnbn, .inr (.inr (.inr (.inr (yad gnbd))))))], xg_rows gnbd gnbn (cy 1) gnbk gnbG] 0 0 [(0, .ref g), (1, .long b_1.1)] 34 [] := by
    refine xr_iconst (n := 35) (v := 0) C dd_X9_digest_1.2.2.2.1 rfl rfl ?_
    refine xr_istore_n (n := 36) C [(3, .int 0), (0, .ref g), (1, .long b_1.1)] dd_X9_digest_1.2.2.2.2.1 (by decide) rfl rfl ?_
    refine xr_lv (lv' := [(0, .ref g), (1, .long b_1.1), (3, .int 0)]) [1, 2, 0] rfl ?_
    obtain ⟨b_2, hb_2, hR⟩ := yf_b hR
    have K_2 : X p l e (yR 7 300 600) s m args below meth c D A H0 11 Q [[(g, .inr (11, [.int 0, .ref gw, .ref gB, .ref gK, .ref gU, .ref gS, .int gbe, .int gwo, .long gta, .ref gn, .int glr, .int glc, .int gti, .int ggo, .ref gR, .int gch, .ref gD]))], [(gw, .inr (10, [.int gwr, .int gwk, .int gwc, .int gwg, .int gws, .ref gwa, .ref gwb]))], [(gwa, .inl (cy 3, gwan, .inr (.inr (.inr (.inr (yad gwad))))))], xg_rows gwad gwan (cy 1) gwak gwaG, [(gwb, .inl (cy 3, gwbn, .inr (.inr (.inr (.inr (yad gwbd))))))], xg_rows gwbd gwbn (cy 1) gwbk gwbG, [(gB, .inl (cy 4, 5, .inr (.inr (.inr (.inr (yad gBd))))))], xg_rows gBd 5 (cy 2) 5 gBG, [(gK, .inl (cy 4, 5, .inr (.inr (.inr (.inr (yad gKd))))))], xg_rows gKd 5 (cy 2) 5 gKG, [(gU, .inl (cy 3, 5, .inr (.inr (.inr (.inr (yad gUd))))))], xg_rows gUd 5 (cy 1) 5 gUG, [(gS, .inl (cy 3, 5, .inr (.inr (.inr (.inr (yad gSd))))))], xg_rows gSd 5 (cy 1) 5 gSG, [(gR, .inl (cy 3, gRn, .inr (.inr (.inr (.inr (yad gRd))))))], xg_rows gRd gRn (cy 1) gRk gRG, [(gn, .inr (10, [.int gnr, .int gnk, .int gnc, .int gng, .int gns, .ref gna, .ref gnb]))], [(gna, .inl (cy 3, gnan, .inr (.inr (.inr (.inr (yad gnad))))))], xg_rows gnad gnan (cy 1) gnak gnaG, [(gnb, .inl (cy 3, gnbn, .inr (.inr (.inr (.inr (yad gnbd))))))], xg_rows gnbd gnbn (cy 1) gnbk gnbG] 0 0 [(0, .ref g), (1, .long b_2.1)] 92 [] := by
      refine xr_aload_n (n := 93) (j := 0) C dd_X9_digest_3.2.1 rfl rfl ?_
      refine xr_get (n := 96) C 0 rfl rfl 14 (by decide) in_X9 u_1251 rfl (v := .ref gR) rfl dd_X9_digest_3.2.2.1 rfl ?_
      refine xr_astore_n (n := 97) C [(3, .ref gR), (0, .ref g), (1, .long b_2.1)] dd_X9_digest_3.2.2.2.1 (by decide) rfl rfl ?_
      refine xr_aload_n (n := 98) (j := 0) C dd_X9_digest_3.2.2.2.2.1 rfl rfl ?_
      refine xr_alen (n := 99) C 14 0 rfl 3 rfl rfl dd_X9_digest_3.2.2.2.2.2.1 rfl ?_
      refine xr_istore (n := 101) C [(4, .int (nI gRn)), (3, .ref gR), (0, .ref g), (1, .long b_2.1)] dd_X9_digest_3.2.2.2.2.2.2.1 (by decide) rfl rfl ?_
      refine xr_iconst (n := 102) (v := 0) C dd_X9_digest_3.2.2.2.2.2.2.2.1 rfl rfl ?_
      refine xr_istore (n := 104) C [(5, .int 0), (4, .int (nI gRn)), (3, .ref gR), (0, .ref g), (1, .long b_2.1)] dd_X9_digest_3.2.2.2.2.2.2.2.2.1 (by decide) rfl rfl ?_
      refine xr_lv (lv' := [(0, .ref g), (1, .long b_2.1), (3, .ref gR), (4, .int (nI gRn)), (5, .int 0)]) [3, 4, 2, 1, 0] rfl ?_
      obtain ⟨b_3, hb_3, hR⟩ := yf_b hR
      have K_3 : X p l e (yR 7 300 600) s m args below meth c D A H0 11 Q [[(g, .inr (11, [.int 0, .ref gw, .ref gB, .ref gK, .ref gU, .ref gS, .int gbe, .int gwo, .long gta, .ref gn, .int glr, .int glc, .int gti, .int ggo, .ref gR, .int gch, .ref gD]))], [(gw, .inr (10, [.int gwr, .int gwk, .int gwc, .int gwg, .int gws, .ref gwa, .ref gwb]))], [(gwa, .inl (cy 3, gwan, .inr (.inr (.inr (.inr (yad gwad))))))], xg_rows gwad gwan (cy 1) gwak gwaG, [(gwb, .inl (cy 3, gwbn, .inr (.inr (.inr (.inr (yad gwbd))))))], xg_rows gwbd gwbn (cy 1) gwbk gwbG, [(gB, .inl (cy 4, 5, .inr (.inr (.inr (.inr (yad gBd))))))], xg_rows gBd 5 (cy 2) 5 gBG, [(gK, .inl (cy 4, 5, .inr (.inr (.inr (.inr (yad gKd))))))], xg_rows gKd 5 (cy 2) 5 gKG, [(gU, .inl (cy 3, 5, .inr (.inr (.inr (.inr (yad gUd))))))], xg_rows gUd 5 (cy 1) 5 gUG, [(gS, .inl (cy 3, 5, .inr (.inr (.inr (.inr (yad gSd))))))], xg_rows gSd 5 (cy 1) 5 gSG, [(gR, .inl (cy 3, gRn, .inr (.inr (.inr (.inr (yad gRd))))))], xg_rows gRd gRn (cy 1) gRk gRG, [(gn, .inr (10, [.int gnr, .int gnk, .int gnc, .int gng, .int gns, .ref gna, .ref gnb]))], [(gna, .inl (cy 3, gnan, .inr (.inr (.inr (.inr (yad gnad))))))], xg_rows gnad gnan (cy 1) gnak gnaG, [(gnb, .inl (cy 3, gnbn, .inr (.inr (.inr (.inr (yad gnbd))))))], xg_rows gnbd gnbn (cy 1) gnbk gnbG] 0 0 [(0, .ref g), (1, .long b_3.1)] 163 [] := by
        refine xr_iconst (n := 164) (v := 0) C dd_X9_digest_5.2.2.2.2.2.2.2.1 rfl rfl ?_
        refine xr_istore_n (n := 165) C [(3, .int 0), (0, .ref g), (1, .long b_3.1)] dd_X9_digest_5.2.2.2.2.2.2.2.2.1 (by decide) rfl rfl ?_
        refine xr_lv (lv' := [(0, .ref g), (1, .long b_3.1), (3, .int 0)]) [1, 2, 0] rfl ?_
        obtain ⟨b_4, hb_4, hR⟩ := yf_b hR
        have K_4 : X p l e (yR 7 300 600) s m args below meth c D A H0 11 Q [[(g, .inr (11, [.int 0, .ref gw, .ref gB, .ref gK, .ref gU, .ref gS, .int gbe, .int gwo, .long gta, .ref gn, .int glr, .int glc, .int gti, .int ggo, .ref gR, .int gch, .ref gD]))], [(gw, .inr (10, [.int gwr, .int gwk, .int gwc, .int gwg, .int gws, .ref gwa, .ref gwb]))], [(gwa, .inl (cy 3, gwan, .inr (.inr (.inr (.inr (yad gwad))))))], xg_rows gwad gwan (cy 1) gwak gwaG, [(gwb, .inl (cy 3, gwbn, .inr (.inr (.inr (.inr (yad gwbd))))))], xg_rows gwbd gwbn (cy 1) gwbk gwbG, [(gB, .inl (cy 4, 5, .inr (.inr (.inr (.inr (yad gBd))))))], xg_rows gBd 5 (cy 2) 5 gBG, [(gK, .inl (cy 4, 5, .inr (.inr (.inr (.inr (yad gKd))))))], xg_rows gKd 5 (cy 2) 5 gKG, [(gU, .inl (cy 3, 5, .inr (.inr (.inr (.inr (yad gUd))))))], xg_rows gUd 5 (cy 1) 5 gUG, [(gS, .inl (cy 3, 5, .inr (.inr (.inr (.inr (yad gSd))))))], xg_rows gSd 5 (cy 1) 5 gSG, [(gR, .inl (cy 3, gRn, .inr (.inr (.inr (.inr (yad gRd))))))], xg_rows gRd gRn (cy 1) gRk gRG, [(gn, .inr (10, [.int gnr, .int gnk, .int gnc, .int gng, .int gns, .ref gna, .ref gnb]))], [(gna, .inl (cy 3, gnan, .inr (.inr (.inr (.inr (yad gnad))))))], xg_rows gnad gnan (cy 1) gnak gnaG, [(gnb, .inl (cy 3, gnbn, .inr (.inr (.inr (.inr (yad gnbd))))))], xg_rows gnbd gnbn (cy 1) gnbk gnbG] 0 0 [(0, .ref g), (1, .long b_4.1)] 219 [] := by
          refine xr_iconst (n := 220) (v := 0) C dd_X9_digest_7.2.2.1 rfl rfl ?_
          refine xr_istore_n (n := 221) C [(3, .int 0), (0, .ref g), (1, .long b_4.1)] dd_X9_digest_7.2.2.2.1 (by decide) rfl rfl ?_
          refine xr_lv (lv' := [(0, .ref g), (1, .long b_4.1), (3, .int 0)]) [1, 2, 0] rfl ?_
          obtain ⟨b_5, hb_5, hR⟩ := yf_b hR
          have K_5 : X p l e (yR 7 300 600) s m args below meth c D A H0 11 Q [[(g, .inr (11, [.int 0, .ref gw, .ref gB, .ref gK, .ref gU, .ref gS, .int gbe, .int gwo, .long gta, .ref gn, .int glr, .int glc, .int gti, .int ggo, .ref gR, .int gch, .ref gD]))], [(gw, .inr (10, [.int gwr, .int gwk, .int gwc, .int gwg, .int gws, .ref gwa, .ref gwb]))], [(gwa, .inl (cy 3, gwan, .inr (.inr (.inr (.inr (yad gwad))))))], xg_rows gwad gwan (cy 1) gwak gwaG, [(gwb, .inl (cy 3, gwbn, .inr (.inr (.inr (.inr (yad gwbd))))))], xg_rows gwbd gwbn (cy 1) gwbk gwbG, [(gB, .inl (cy 4, 5, .inr (.inr (.inr (.inr (yad gBd))))))], xg_rows gBd 5 (cy 2) 5 gBG, [(gK, .inl (cy 4, 5, .inr (.inr (.inr (.inr (yad gKd))))))], xg_rows gKd 5 (cy 2) 5 gKG, [(gU, .inl (cy 3, 5, .inr (.inr (.inr (.inr (yad gUd))))))], xg_rows gUd 5 (cy 1) 5 gUG, [(gS, .inl (cy 3, 5, .inr (.inr (.inr (.inr (yad gSd))))))], xg_rows gSd 5 (cy 1) 5 gSG, [(gR, .inl (cy 3, gRn, .inr (.inr (.inr (.inr (yad gRd))))))], xg_rows gRd gRn (cy 1) gRk gRG, [(gn, .inr (10, [.int gnr, .int gnk, .int gnc, .int gng, .int gns, .ref gna, .ref gnb]))], [(gna, .inl (cy 3, gnan, .inr (.inr (.inr (.inr (yad gnad))))))], xg_rows gnad gnan (cy 1) gnak gnaG, [(gnb, .inl (cy 3, gnbn, .inr (.inr (.inr (.inr (yad gnbd))))))], xg_rows gnbd gnbn (cy 1) gnbk gnbG] b_5.2.2.1 b_5.2.2.2 [(0, .ref g), (1, .long b_5.1)] 243 [] := by
            obtain ⟨g_6, hR⟩ := yf_g hR
            refine xr_lload_n (n := 244) (j := 1) C dd_X9_digest_8.1 rfl rfl ?_
            refine xr_aload_n (n := 245) (j := 0) C dd_X9_digest_8.2.1 rfl rfl ?_
            obtain ⟨x_7, hx_7, hR⟩ := yf_b hR
            obtain ⟨g_8, hR⟩ := yf_g hR
            refine xr_callVp (n := 248) (As := []) (rest := [.long b_5.1]) C (kX9_savedNow_r l D cy (g := g) (gth := 0) (gw := gw) (gB := gB) (gK := gK) (gU := gU) (gS := gS) (gbe := gbe) (gwo := gwo) (gta := gta) (gn := gn) (glr := glr) (glc := glc) (gti := gti) (ggo := ggo) (gR := gR) (gch := gch) (gD := gD) (gwr := gwr) (gwk := gwk) (gwc := gwc) (gwg := gwg) (gws := gws) (gwa := gwa) (gwb := gwb) (gwad := gwad) (gwan := gwan) (gwak := gwak) (gwaG := gwaG) (gwbd := gwbd) (gwbn := gwbn) (gwbk := gwbk) (gwbG := gwbG) (gKd := gKd) (gKG := gKG) hx_7) mX9_savedNow u_1568 u_1570 u_53 0 rfl rfl 21 [0, 1, 2, 3, 4, 5, 8, 9] [6, 7, 10, 11, 12, 13, 14, 15, 16, 17, 18, 19, 20] rfl (by decide +kernel) rfl rfl rfl rfl (Nat.le_of_ble_eq_true rfl) (Nat.le_of_ble_eq_true rfl) (Nat.le_of_ble_eq_true rfl) g_8.1 g_8.2 dd_X9_digest_8.2.2.1 rfl (fun _ _ hp => hp.2) (fun v_9 hp_11 => ?_)
            obtain ⟨rfl, -⟩ := hp_11
            refine xr_st (st' := [.int x_7, .long b_5.1]) rfl ?_
            refine xr_i2l (n := 249) C dd_X9_digest_8.2.2.2.1 rfl ?_
            obtain ⟨x_12, hx_12, hR⟩ := yf_b hR
            refine xr_callSp (n := 252) (As := [.long b_5.1, .long x_7.toInt64]) (rest := []) C (kX9_add l D cy (i1 := b_5.1) (i2 := x_7.toInt64) hx_12) mX9_add u_1589 u_1590 21 [] [0, 1, 2, 3, 4, 5, 6, 7, 8, 9, 10, 11, 12, 13, 14, 15, 16, 17, 18, 19, 20] rfl (by decide +kernel) rfl rfl rfl rfl (Nat.le_of_ble_eq_true rfl) (Nat.le_of_ble_eq_true rfl) (Nat.le_of_ble_eq_true rfl) g_8.1 g_8.2 dd_X9_digest_8.2.2.2.2.1 rfl (fun _ _ hp => hp.2) (fun v_13 hp_15 => ?_)
            obtain ⟨rfl, -⟩ := hp_15
            refine xr_st (st' := [.long x_12]) rfl ?_
            refine xr_lstore_n (n := 253) C [(1, .long x_12), (0, .ref g)] dd_X9_digest_8.2.2.2.2.2.1 (by decide) rfl rfl ?_
            refine xr_lload_n (n := 254) (j := 0) C dd_X9_digest_8.2.2.2.2.2.2.1 rfl rfl ?_
            refine xr_aload_n (n := 255) (j := 1) C dd_X9_digest_8.2.2.2.2.2.2.2.1 rfl rfl ?_
            obtain ⟨x_16, hx_16, hR⟩ := yf_b hR
            obtain ⟨g_17, hR⟩ := yf_g hR
            refine xr_callVp (n := 258) (As := []) (rest := [.long x_12]) C (kX9_isWhole_r l D cy (g := g) (gth := 0) (gw := gw) (gB := gB) (gK := gK) (gU := gU) (gS := gS) (gbe := gbe) (gwo := gwo) (gta := gta) (gn := gn) (glr := glr) (glc := glc) (gti := gti) (ggo := ggo) (gR := gR) (gch := gch) (gD := gD) (gwr := gwr) (gwk := gwk) (gwc := gwc) (gwg := gwg) (gws := gws) (gwa := gwa) (gwb := gwb) (gwad := gwad) (gwan := gwan) (gwak := gwak) (gwaG := gwaG) (gwbd := gwbd) (gwbn := gwbn) (gwbk := gwbk) (gwbG := gwbG) (gBd := gBd) (gBG := gBG) (gKd := gKd) (gKG := gKG) (gUd := gUd) (gUG := gUG) (gnr := gnr) (gnk := gnk) (gnc := gnc) (gng := gng) (gns := gns) (gna := gna) (gnb := gnb) (gnad := gnad) (gnan := gnan) (gnak := gnak) (gnaG := gnaG) (gnbd := gnbd) (gnbn := gnbn) (gnbk := gnbk) (gnbG := gnbG) hx_16) mX9_isWhole u_1576 u_1578 u_54 0 rfl rfl 21 [0, 1, 2, 3, 4, 5, 6, 7, 8, 9, 10, 11, 16, 17, 18, 19, 20] [12, 13, 14, 15] rfl (by decide +kernel) rfl rfl rfl rfl (Nat.le_of_ble_eq_true rfl) (Nat.le_of_ble_eq_true rfl) (Nat.le_of_ble_eq_true rfl) g_17.1 g_17.2 dd_X9_digest_8.2.2.2.2.2.2.2.2.1 rfl (fun _ _ hp => hp.2) (fun v_18 hp_20 => ?_)
            obtain ⟨rfl, -⟩ := hp_20
            refine xr_st (st' := [.int x_16, .long x_12]) rfl ?_
            obtain ⟨x_21, hx_21, hR⟩ := yf_b hR
            refine xr_callSp (n := 261) (As := [.int x_16]) (rest := [.long x_12]) C (kX9_one l D cy (i1 := x_16) hx_21) mX9_one u_1308 u_1309 21 [] [0, 1, 2, 3, 4, 5, 6, 7, 8, 9, 10, 11, 12, 13, 14, 15, 16, 17, 18, 19, 20] rfl (by decide +kernel) rfl rfl rfl rfl (Nat.le_of_ble_eq_true rfl) (Nat.le_of_ble_eq_true rfl) (Nat.le_of_ble_eq_true rfl) g_17.1 g_17.2 dd_X9_digest_8.2.2.2.2.2.2.2.2.2.1 rfl (fun _ _ hp => hp.2) (fun v_22 hp_24 => ?_)
            obtain ⟨rfl, -⟩ := hp_24
            refine xr_st (st' := [.int x_21, .long x_12]) rfl ?_
            refine xr_i2l (n := 262) C dd_X9_digest_8.2.2.2.2.2.2.2.2.2.2.1 rfl ?_
            obtain ⟨x_25, hx_25, hR⟩ := yf_b hR
            refine xr_callSp (n := 265) (As := [.long x_12, .long x_21.toInt64]) (rest := []) C (kX9_add l D cy (i1 := x_12) (i2 := x_21.toInt64) hx_25) mX9_add u_1589 u_1590 21 [] [0, 1, 2, 3, 4, 5, 6, 7, 8, 9, 10, 11, 12, 13, 14, 15, 16, 17, 18, 19, 20] rfl (by decide +kernel) rfl rfl rfl rfl (Nat.le_of_ble_eq_true rfl) (Nat.le_of_ble_eq_true rfl) (Nat.le_of_ble_eq_true rfl) g_17.1 g_17.2 dd_X9_digest_8.2.2.2.2.2.2.2.2.2.2.2.1 rfl (fun _ _ hp => hp.2) (fun v_26 hp_28 => ?_)
            obtain ⟨rfl, -⟩ := hp_28
            refine xr_st (st' := [.long x_25]) rfl ?_
            obtain rfl := Option.some.inj hR
            exact ret x_25 ⟨rfl, rfl⟩ g_17.1 g_17.2 dd_X9_digest_8.2.2.2.2.2.2.2.2.2.2.2.2.1
          refine y_loop (P := fun (s_5 : Int64 × Int32 × Nat × Nat) => X p l e (yR 7 300 600) s m args below meth c D A H0 11 Q [[(g, .inr (11, [.int 0, .ref gw, .ref gB, .ref gK, .ref gU, .ref gS, .int gbe, .int gwo, .long gta, .ref gn, .int glr, .int glc, .int gti, .int ggo, .ref gR, .int gch, .ref gD]))], [(gw, .inr (10, [.int gwr, .int gwk, .int gwc, .int gwg, .int gws, .ref gwa, .ref gwb]))], [(gwa, .inl (cy 3, gwan, .inr (.inr (.inr (.inr (yad gwad))))))], xg_rows gwad gwan (cy 1) gwak gwaG, [(gwb, .inl (cy 3, gwbn, .inr (.inr (.inr (.inr (yad gwbd))))))], xg_rows gwbd gwbn (cy 1) gwbk gwbG, [(gB, .inl (cy 4, 5, .inr (.inr (.inr (.inr (yad gBd))))))], xg_rows gBd 5 (cy 2) 5 gBG, [(gK, .inl (cy 4, 5, .inr (.inr (.inr (.inr (yad gKd))))))], xg_rows gKd 5 (cy 2) 5 gKG, [(gU, .inl (cy 3, 5, .inr (.inr (.inr (.inr (yad gUd))))))], xg_rows gUd 5 (cy 1) 5 gUG, [(gS, .inl (cy 3, 5, .inr (.inr (.inr (.inr (yad gSd))))))], xg_rows gSd 5 (cy 1) 5 gSG, [(gR, .inl (cy 3, gRn, .inr (.inr (.inr (.inr (yad gRd))))))], xg_rows gRd gRn (cy 1) gRk gRG, [(gn, .inr (10, [.int gnr, .int gnk, .int gnc, .int gng, .int gns, .ref gna, .ref gnb]))], [(gna, .inl (cy 3, gnan, .inr (.inr (.inr (.inr (yad gnad))))))], xg_rows gnad gnan (cy 1) gnak gnaG, [(gnb, .inl (cy 3, gnbn, .inr (.inr (.inr (.inr (yad gnbd))))))], xg_rows gnbd gnbn (cy 1) gnbk gnbG] s_5.2.2.1 s_5.2.2.2 [(0, .ref g), (1, .long s_5.1), (3, .int s_5.2.1)] 221 []) ?_ _ (b_4.1, 0, 0, 0) hb_5
          intro s_5 o_5 ho_5 hk_5 hx_5
          obtain ⟨g_29, ho_5⟩ := yf_g ho_5
          refine xr_iload_n (n := 222) (j := 2) C dd_X9_digest_7.2.2.2.2.1 rfl rfl ?_
          refine xr_iconst (n := 223) (v := 5) C dd_X9_digest_7.2.2.2.2.2.1 rfl rfl ?_
          refine xr_icmp_ge (tgt := 243) (n := 226) C dd_X9_digest_7.2.2.2.2.2.2.1 rfl rfl (fun c_30 => ?_) (fun c_30 => ?_)
          · replace ho_5 := yf_t c_30 ho_5
            refine xr_lv (lv' := [(0, .ref g), (1, .long s_5.1)]) [0, 1] rfl ?_
            have e_31 := hx_5 _ (Option.some.inj ho_5).symm
            subst e_31
            exact K_5
          · replace ho_5 := yf_f c_30 ho_5
            refine xr_lload_n (n := 227) (j := 1) C dd_X9_digest_7.2.2.2.2.2.2.2.1 rfl rfl ?_
            refine xr_aload_n (n := 228) (j := 0) C dd_X9_digest_7.2.2.2.2.2.2.2.2.1 rfl rfl ?_
            refine xr_iload_n (n := 229) (j := 2) C dd_X9_digest_7.2.2.2.2.2.2.2.2.2.1 rfl rfl ?_
            obtain ⟨x_32, hx_32, ho_5⟩ := yf_b ho_5
            obtain ⟨g_33, ho_5⟩ := yf_g ho_5
            refine xr_callVp (n := 232) (As := [.int s_5.2.1]) (rest := [.long s_5.1]) C (kX9_bestTold_r l D cy (g := g) (gth := 0) (gw := gw) (gB := gB) (gK := gK) (gU := gU) (gS := gS) (gbe := gbe) (gwo := gwo) (gta := gta) (gn := gn) (glr := glr) (glc := glc) (gti := gti) (ggo := ggo) (gR := gR) (gch := gch) (gD := gD) (gwr := gwr) (gwk := gwk) (gwc := gwc) (gwg := gwg) (gws := gws) (gwa := gwa) (gwb := gwb) (gwad := gwad) (gwan := gwan) (gwak := gwak) (gwaG := gwaG) (gwbd := gwbd) (gwbn := gwbn) (gwbk := gwbk) (gwbG := gwbG) (gKd := gKd) (gKG := gKG) (i1 := s_5.2.1) hx_32) mX9_bestTold u_1560 u_1562 u_52 0 rfl rfl 21 [0, 1, 2, 3, 4, 5, 8, 9] [6, 7, 10, 11, 12, 13, 14, 15, 16, 17, 18, 19, 20] rfl (by decide +kernel) rfl rfl rfl rfl (Nat.le_of_ble_eq_true rfl) (Nat.le_of_ble_eq_true rfl) (Nat.le_of_ble_eq_true rfl) g_33.1 g_33.2 dd_X9_digest_7.2.2.2.2.2.2.2.2.2.2.1 rfl (fun _ _ hp => hp.2) (fun v_34 hp_36 => ?_)
            obtain ⟨rfl, -⟩ := hp_36
            refine xr_st (st' := [.int x_32, .long s_5.1]) rfl ?_
            refine xr_i2l (n := 233) C dd_X9_digest_7.2.2.2.2.2.2.2.2.2.2.2.1 rfl ?_
            obtain ⟨x_37, hx_37, ho_5⟩ := yf_b ho_5
            refine xr_callSp (n := 236) (As := [.long s_5.1, .long x_32.toInt64]) (rest := []) C (kX9_add l D cy (i1 := s_5.1) (i2 := x_32.toInt64) hx_37) mX9_add u_1589 u_1590 21 [] [0, 1, 2, 3, 4, 5, 6, 7, 8, 9, 10, 11, 12, 13, 14, 15, 16, 17, 18, 19, 20] rfl (by decide +kernel) rfl rfl rfl rfl (Nat.le_of_ble_eq_true rfl) (Nat.le_of_ble_eq_true rfl) (Nat.le_of_ble_eq_true rfl) g_33.1 g_33.2 dd_X9_digest_7.2.2.2.2.2.2.2.2.2.2.2.2.1 rfl (fun _ _ hp => hp.2) (fun v_38 hp_40 => ?_)
            obtain ⟨rfl, -⟩ := hp_40
            refine xr_st (st' := [.long x_37]) rfl ?_
            refine xr_lstore_n (n := 237) C [(1, .long x_37), (0, .ref g), (3, .int s_5.2.1)] dd_X9_digest_7.2.2.2.2.2.2.2.2.2.2.2.2.2.1 (by decide) rfl rfl ?_
            refine xr_iinc (j := 2) (v := s_5.2.1 + 1) (n := 240) C [(3, .int (s_5.2.1 + 1)), (1, .long x_37), (0, .ref g)] dd_X9_digest_7.2.2.2.2.2.2.2.2.2.2.2.2.2.2.1 rfl rfl (by decide) rfl rfl ?_
            refine xr_goto (tgt := 221) C dd_X9_digest_7.2.2.2.2.2.2.2.2.2.2.2.2.2.2.2.1 rfl ?_
            refine xr_lv (lv' := [(0, .ref g), (1, .long x_37), (3, .int (s_5.2.1 + 1))]) [2, 1, 0] rfl ?_
            exact hk_5 (x_37, s_5.2.1 + 1, s_5.2.2.1 + 30, s_5.2.2.2 + 60) (Option.some.inj ho_5).symm
        refine y_loop (P := fun (s_4 : Int64 × Int32) => X p l e (yR 7 300 600) s m args below meth c D A H0 11 Q [[(g, .inr (11, [.int 0, .ref gw, .ref gB, .ref gK, .ref gU, .ref gS, .int gbe, .int gwo, .long gta, .ref gn, .int glr, .int glc, .int gti, .int ggo, .ref gR, .int gch, .ref gD]))], [(gw, .inr (10, [.int gwr, .int gwk, .int gwc, .int gwg, .int gws, .ref gwa, .ref gwb]))], [(gwa, .inl (cy 3, gwan, .inr (.inr (.inr (.inr (yad gwad))))))], xg_rows gwad gwan (cy 1) gwak gwaG, [(gwb, .inl (cy 3, gwbn, .inr (.inr (.inr (.inr (yad gwbd))))))], xg_rows gwbd gwbn (cy 1) gwbk gwbG, [(gB, .inl (cy 4, 5, .inr (.inr (.inr (.inr (yad gBd))))))], xg_rows gBd 5 (cy 2) 5 gBG, [(gK, .inl (cy 4, 5, .inr (.inr (.inr (.inr (yad gKd))))))], xg_rows gKd 5 (cy 2) 5 gKG, [(gU, .inl (cy 3, 5, .inr (.inr (.inr (.inr (yad gUd))))))], xg_rows gUd 5 (cy 1) 5 gUG, [(gS, .inl (cy 3, 5, .inr (.inr (.inr (.inr (yad gSd))))))], xg_rows gSd 5 (cy 1) 5 gSG, [(gR, .inl (cy 3, gRn, .inr (.inr (.inr (.inr (yad gRd))))))], xg_rows gRd gRn (cy 1) gRk gRG, [(gn, .inr (10, [.int gnr, .int gnk, .int gnc, .int gng, .int gns, .ref gna, .ref gnb]))], [(gna, .inl (cy 3, gnan, .inr (.inr (.inr (.inr (yad gnad))))))], xg_rows gnad gnan (cy 1) gnak gnaG, [(gnb, .inl (cy 3, gnbn, .inr (.inr (.inr (.inr (yad gnbd))))))], xg_rows gnbd gnbn (cy 1) gnbk gnbG] 0 0 [(0, .ref g), (1, .long s_4.1), (3, .int s_4.2)] 165 []) ?_ _ (b_3.1, 0) hb_4
        intro s_4 o_4 ho_4 hk_4 hx_4
        refine xr_iload_n (n := 166) (j := 2) C dd_X9_digest_5.2.2.2.2.2.2.2.2.2.1 rfl rfl ?_
        refine xr_aload_n (n := 167) (j := 0) C dd_X9_digest_5.2.2.2.2.2.2.2.2.2.2.1 rfl rfl ?_
        refine xr_get (n := 170) C 0 rfl rfl 1 (by decide) in_X9 u_1238 rfl (v := .ref gw) rfl dd_X9_digest_5.2.2.2.2.2.2.2.2.2.2.2.1 rfl ?_
        obtain ⟨x_41, hx_41, ho_4⟩ := yf_b ho_4
        refine xr_callVp (n := 173) (As := []) (rest := [.int s_4.2]) C (kX8_rows l D cy (w := gw) (wr := gwr) (wk := gwk) (wc := gwc) (wg := gwg) (ws := gws) (wa := gwa) (wb := gwb) hx_41) mX8_rows u_1380 u_1381 u_1382 1 rfl rfl 21 [1] [0, 2, 3, 4, 5, 6, 7, 8, 9, 10, 11, 12, 13, 14, 15, 16, 17, 18, 19, 20] rfl (by decide +kernel) rfl rfl rfl rfl (Nat.le_of_ble_eq_true rfl) (Nat.le_of_ble_eq_true rfl) (Nat.le_of_ble_eq_true rfl) (Nat.le_of_ble_eq_true rfl) (Nat.le_of_ble_eq_true rfl) dd_X9_digest_5.2.2.2.2.2.2.2.2.2.2.2.2.1 rfl (fun _ _ hp => hp.2) (fun v_42 hp_44 => ?_)
        obtain ⟨rfl, -⟩ := hp_44
        refine xr_st (st' := [.int x_41, .int s_4.2]) rfl ?_
        refine xr_icmp_ge (tgt := 219) (n := 176) C dd_X9_digest_5.2.2.2.2.2.2.2.2.2.2.2.2.2.1 rfl rfl (fun c_45 => ?_) (fun c_45 => ?_)
        · replace ho_4 := yf_t c_45 ho_4
          refine xr_lv (lv' := [(0, .ref g), (1, .long s_4.1)]) [0, 1] rfl ?_
          have e_46 := hx_4 _ (Option.some.inj ho_4).symm
          subst e_46
          exact K_4
        · replace ho_4 := yf_f c_45 ho_4
          refine xr_iconst (n := 177) (v := 0) C dd_X9_digest_5.2.2.2.2.2.2.2.2.2.2.2.2.2.2.1 rfl rfl ?_
          refine xr_istore (n := 179) C [(4, .int 0), (0, .ref g), (1, .long s_4.1), (3, .int s_4.2)] dd_X9_digest_5.2.2.2.2.2.2.2.2.2.2.2.2.2.2.2.1 (by decide) rfl rfl ?_
          refine xr_lv (lv' := [(0, .ref g), (1, .long s_4.1), (3, .int s_4.2), (4, .int 0)]) [1, 2, 3, 0] rfl ?_
          obtain ⟨b_47, hb_47, ho_4⟩ := yf_b ho_4
          have K_47 : X p l e (yR 7 300 600) s m args below meth c D A H0 11 Q [[(g, .inr (11, [.int 0, .ref gw, .ref gB, .ref gK, .ref gU, .ref gS, .int gbe, .int gwo, .long gta, .ref gn, .int glr, .int glc, .int gti, .int ggo, .ref gR, .int gch, .ref gD]))], [(gw, .inr (10, [.int gwr, .int gwk, .int gwc, .int gwg, .int gws, .ref gwa, .ref gwb]))], [(gwa, .inl (cy 3, gwan, .inr (.inr (.inr (.inr (yad gwad))))))], xg_rows gwad gwan (cy 1) gwak gwaG, [(gwb, .inl (cy 3, gwbn, .inr (.inr (.inr (.inr (yad gwbd))))))], xg_rows gwbd gwbn (cy 1) gwbk gwbG, [(gB, .inl (cy 4, 5, .inr (.inr (.inr (.inr (yad gBd))))))], xg_rows gBd 5 (cy 2) 5 gBG, [(gK, .inl (cy 4, 5, .inr (.inr (.inr (.inr (yad gKd))))))], xg_rows gKd 5 (cy 2) 5 gKG, [(gU, .inl (cy 3, 5, .inr (.inr (.inr (.inr (yad gUd))))))], xg_rows gUd 5 (cy 1) 5 gUG, [(gS, .inl (cy 3, 5, .inr (.inr (.inr (.inr (yad gSd))))))], xg_rows gSd 5 (cy 1) 5 gSG, [(gR, .inl (cy 3, gRn, .inr (.inr (.inr (.inr (yad gRd))))))], xg_rows gRd gRn (cy 1) gRk gRG, [(gn, .inr (10, [.int gnr, .int gnk, .int gnc, .int gng, .int gns, .ref gna, .ref gnb]))], [(gna, .inl (cy 3, gnan, .inr (.inr (.inr (.inr (yad gnad))))))], xg_rows gnad gnan (cy 1) gnak gnaG, [(gnb, .inl (cy 3, gnbn, .inr (.inr (.inr (.inr (yad gnbd))))))], xg_rows gnbd gnbn (cy 1) gnbk gnbG] 0 0 [(0, .ref g), (1, .long b_47.1), (3, .int s_4.2)] 213 [] := by
            refine xr_iinc (j := 2) (v := s_4.2 + 1) (n := 216) C [(3, .int (s_4.2 + 1)), (0, .ref g), (1, .long b_47.1)] dd_X9_digest_7.1 rfl rfl (by decide) rfl rfl ?_
            refine xr_goto (tgt := 165) C dd_X9_digest_7.2.1 rfl ?_
            refine xr_lv (lv' := [(0, .ref g), (1, .long b_47.1), (3, .int (s_4.2 + 1))]) [1, 2, 0] rfl ?_
            exact hk_4 (b_47.1, s_4.2 + 1) (Option.some.inj ho_4).symm
          refine y_loop (P := fun (s_47 : Int64 × Int32) => X p l e (yR 7 300 600) s m args below meth c D A H0 11 Q [[(g, .inr (11, [.int 0, .ref gw, .ref gB, .ref gK, .ref gU, .ref gS, .int gbe, .int gwo, .long gta, .ref gn, .int glr, .int glc, .int gti, .int ggo, .ref gR, .int gch, .ref gD]))], [(gw, .inr (10, [.int gwr, .int gwk, .int gwc, .int gwg, .int gws, .ref gwa, .ref gwb]))], [(gwa, .inl (cy 3, gwan, .inr (.inr (.inr (.inr (yad gwad))))))], xg_rows gwad gwan (cy 1) gwak gwaG, [(gwb, .inl (cy 3, gwbn, .inr (.inr (.inr (.inr (yad gwbd))))))], xg_rows gwbd gwbn (cy 1) gwbk gwbG, [(gB, .inl (cy 4, 5, .inr (.inr (.inr (.inr (yad gBd))))))], xg_rows gBd 5 (cy 2) 5 gBG, [(gK, .inl (cy 4, 5, .inr (.inr (.inr (.inr (yad gKd))))))], xg_rows gKd 5 (cy 2) 5 gKG, [(gU, .inl (cy 3, 5, .inr (.inr (.inr (.inr (yad gUd))))))], xg_rows gUd 5 (cy 1) 5 gUG, [(gS, .inl (cy 3, 5, .inr (.inr (.inr (.inr (yad gSd))))))], xg_rows gSd 5 (cy 1) 5 gSG, [(gR, .inl (cy 3, gRn, .inr (.inr (.inr (.inr (yad gRd))))))], xg_rows gRd gRn (cy 1) gRk gRG, [(gn, .inr (10, [.int gnr, .int gnk, .int gnc, .int gng, .int gns, .ref gna, .ref gnb]))], [(gna, .inl (cy 3, gnan, .inr (.inr (.inr (.inr (yad gnad))))))], xg_rows gnad gnan (cy 1) gnak gnaG, [(gnb, .inl (cy 3, gnbn, .inr (.inr (.inr (.inr (yad gnbd))))))], xg_rows gnbd gnbn (cy 1) gnbk gnbG] 0 0 [(0, .ref g), (1, .long s_47.1), (3, .int s_4.2), (4, .int s_47.2)] 179 []) ?_ _ (s_4.1, 0) hb_47
          intro s_47 o_47 ho_47 hk_47 hx_47
          refine xr_iload (n := 181) (j := 3) C dd_X9_digest_6.1 rfl rfl ?_
          refine xr_aload_n (n := 182) (j := 0) C dd_X9_digest_6.2.1 rfl rfl ?_
          refine xr_get (n := 185) C 0 rfl rfl 1 (by decide) in_X9 u_1238 rfl (v := .ref gw) rfl dd_X9_digest_6.2.2.1 rfl ?_
          obtain ⟨x_48, hx_48, ho_47⟩ := yf_b ho_47
          refine xr_callVp (n := 188) (As := []) (rest := [.int s_47.2]) C (kX8_columns l D cy (w := gw) (wr := gwr) (wk := gwk) (wc := gwc) (wg := gwg) (ws := gws) (wa := gwa) (wb := gwb) hx_48) mX8_columns u_1387 u_1388 u_1389 1 rfl rfl 21 [1] [0, 2, 3, 4, 5, 6, 7, 8, 9, 10, 11, 12, 13, 14, 15, 16, 17, 18, 19, 20] rfl (by decide +kernel) rfl rfl rfl rfl (Nat.le_of_ble_eq_true rfl) (Nat.le_of_ble_eq_true rfl) (Nat.le_of_ble_eq_true rfl) (Nat.le_of_ble_eq_true rfl) (Nat.le_of_ble_eq_true rfl) dd_X9_digest_6.2.2.2.1 rfl (fun _ _ hp => hp.2) (fun v_49 hp_51 => ?_)
          obtain ⟨rfl, -⟩ := hp_51
          refine xr_st (st' := [.int x_48, .int s_47.2]) rfl ?_
          refine xr_icmp_ge (tgt := 213) (n := 191) C dd_X9_digest_6.2.2.2.2.1 rfl rfl (fun c_52 => ?_) (fun c_52 => ?_)
          · replace ho_47 := yf_t c_52 ho_47
            refine xr_lv (lv' := [(0, .ref g), (1, .long s_47.1), (3, .int s_4.2)]) [0, 1, 2] rfl ?_
            have e_53 := hx_47 _ (Option.some.inj ho_47).symm
            subst e_53
            exact K_47
          · replace ho_47 := yf_f c_52 ho_47
            refine xr_lload_n (n := 192) (j := 1) C dd_X9_digest_6.2.2.2.2.2.1 rfl rfl ?_
            refine xr_aload_n (n := 193) (j := 0) C dd_X9_digest_6.2.2.2.2.2.2.1 rfl rfl ?_
            refine xr_get (n := 196) C 0 rfl rfl 1 (by decide) in_X9 u_1238 rfl (v := .ref gw) rfl dd_X9_digest_6.2.2.2.2.2.2.2.1 rfl ?_
            refine xr_iload_n (n := 197) (j := 2) C dd_X9_digest_6.2.2.2.2.2.2.2.2.1 rfl rfl ?_
            refine xr_iload (n := 199) (j := 3) C dd_X9_digest_6.2.2.2.2.2.2.2.2.2.1 rfl rfl ?_
            obtain ⟨x_54, hx_54, ho_47⟩ := yf_b ho_47
            refine xr_callVp (n := 202) (As := [.int s_4.2, .int s_47.2]) (rest := [.long s_47.1]) C (kX8_plain l D cy (w := gw) (wr := gwr) (wk := gwk) (wc := gwc) (wg := gwg) (ws := gws) (wa := gwa) (wb := gwb) (wad := gwad) (wan := gwan) (wak := gwak) (waG := gwaG) (wbd := gwbd) (wbn := gwbn) (wbk := gwbk) (wbG := gwbG) (i1 := s_4.2) (i2 := s_47.2) hx_54) mX8_plain u_1535 u_1536 u_1537 1 rfl rfl 21 [1, 2, 3, 4, 5] [0, 6, 7, 8, 9, 10, 11, 12, 13, 14, 15, 16, 17, 18, 19, 20] rfl (by decide +kernel) rfl rfl rfl rfl (Nat.le_of_ble_eq_true rfl) (Nat.le_of_ble_eq_true rfl) (Nat.le_of_ble_eq_true rfl) (Nat.le_of_ble_eq_true rfl) (Nat.le_of_ble_eq_true rfl) dd_X9_digest_6.2.2.2.2.2.2.2.2.2.2.1 rfl (fun _ _ hp => hp.2) (fun v_55 hp_57 => ?_)
            obtain ⟨rfl, -⟩ := hp_57
            refine xr_st (st' := [.int x_54, .long s_47.1]) rfl ?_
            refine xr_i2l (n := 203) C dd_X9_digest_6.2.2.2.2.2.2.2.2.2.2.2.1 rfl ?_
            obtain ⟨x_58, hx_58, ho_47⟩ := yf_b ho_47
            refine xr_callSp (n := 206) (As := [.long s_47.1, .long x_54.toInt64]) (rest := []) C (kX9_add l D cy (i1 := s_47.1) (i2 := x_54.toInt64) hx_58) mX9_add u_1589 u_1590 21 [] [0, 1, 2, 3, 4, 5, 6, 7, 8, 9, 10, 11, 12, 13, 14, 15, 16, 17, 18, 19, 20] rfl (by decide +kernel) rfl rfl rfl rfl (Nat.le_of_ble_eq_true rfl) (Nat.le_of_ble_eq_true rfl) (Nat.le_of_ble_eq_true rfl) (Nat.le_of_ble_eq_true rfl) (Nat.le_of_ble_eq_true rfl) dd_X9_digest_6.2.2.2.2.2.2.2.2.2.2.2.2.1 rfl (fun _ _ hp => hp.2) (fun v_59 hp_61 => ?_)
            obtain ⟨rfl, -⟩ := hp_61
            refine xr_st (st' := [.long x_58]) rfl ?_
            refine xr_lstore_n (n := 207) C [(1, .long x_58), (0, .ref g), (3, .int s_4.2), (4, .int s_47.2)] dd_X9_digest_6.2.2.2.2.2.2.2.2.2.2.2.2.2.1 (by decide) rfl rfl ?_
            refine xr_iinc (j := 3) (v := s_47.2 + 1) (n := 210) C [(4, .int (s_47.2 + 1)), (1, .long x_58), (0, .ref g), (3, .int s_4.2)] dd_X9_digest_6.2.2.2.2.2.2.2.2.2.2.2.2.2.2.1 rfl rfl (by decide) rfl rfl ?_
            refine xr_goto (tgt := 179) C dd_X9_digest_6.2.2.2.2.2.2.2.2.2.2.2.2.2.2.2.1 rfl ?_
            refine xr_lv (lv' := [(0, .ref g), (1, .long x_58), (3, .int s_4.2), (4, .int (s_47.2 + 1))]) [2, 1, 3, 0] rfl ?_
            exact hk_47 (x_58, s_47.2 + 1) (Option.some.inj ho_47).symm
      refine y_loop (P := fun (s_3 : Int64 × Int32) => X p l e (yR 7 300 600) s m args below meth c D A H0 11 Q [[(g, .inr (11, [.int 0, .ref gw, .ref gB, .ref gK, .ref gU, .ref gS, .int gbe, .int gwo, .long gta, .ref gn, .int glr, .int glc, .int gti, .int ggo, .ref gR, .int gch, .ref gD]))], [(gw, .inr (10, [.int gwr, .int gwk, .int gwc, .int gwg, .int gws, .ref gwa, .ref gwb]))], [(gwa, .inl (cy 3, gwan, .inr (.inr (.inr (.inr (yad gwad))))))], xg_rows gwad gwan (cy 1) gwak gwaG, [(gwb, .inl (cy 3, gwbn, .inr (.inr (.inr (.inr (yad gwbd))))))], xg_rows gwbd gwbn (cy 1) gwbk gwbG, [(gB, .inl (cy 4, 5, .inr (.inr (.inr (.inr (yad gBd))))))], xg_rows gBd 5 (cy 2) 5 gBG, [(gK, .inl (cy 4, 5, .inr (.inr (.inr (.inr (yad gKd))))))], xg_rows gKd 5 (cy 2) 5 gKG, [(gU, .inl (cy 3, 5, .inr (.inr (.inr (.inr (yad gUd))))))], xg_rows gUd 5 (cy 1) 5 gUG, [(gS, .inl (cy 3, 5, .inr (.inr (.inr (.inr (yad gSd))))))], xg_rows gSd 5 (cy 1) 5 gSG, [(gR, .inl (cy 3, gRn, .inr (.inr (.inr (.inr (yad gRd))))))], xg_rows gRd gRn (cy 1) gRk gRG, [(gn, .inr (10, [.int gnr, .int gnk, .int gnc, .int gng, .int gns, .ref gna, .ref gnb]))], [(gna, .inl (cy 3, gnan, .inr (.inr (.inr (.inr (yad gnad))))))], xg_rows gnad gnan (cy 1) gnak gnaG, [(gnb, .inl (cy 3, gnbn, .inr (.inr (.inr (.inr (yad gnbd))))))], xg_rows gnbd gnbn (cy 1) gnbk gnbG] 0 0 [(0, .ref g), (1, .long s_3.1), (3, .ref gR), (4, .int (nI gRn)), (5, .int s_3.2)] 104 []) ?_ _ (b_2.1, 0) hb_3
      intro s_3 o_3 ho_3 hk_3 hx_3
      refine xr_iload (n := 106) (j := 4) C dd_X9_digest_3.2.2.2.2.2.2.2.2.2.1 rfl rfl ?_
      refine xr_iload (n := 108) (j := 3) C dd_X9_digest_3.2.2.2.2.2.2.2.2.2.2.1 rfl rfl ?_
      refine xr_icmp_ge (tgt := 163) (n := 111) C dd_X9_digest_3.2.2.2.2.2.2.2.2.2.2.2.1 rfl rfl (fun c_62 => ?_) (fun c_62 => ?_)
      · replace ho_3 := yf_t c_62 ho_3
        refine xr_lv (lv' := [(0, .ref g), (1, .long s_3.1)]) [0, 1] rfl ?_
        have e_63 := hx_3 _ (Option.some.inj ho_3).symm
        subst e_63
        exact K_3
      · replace ho_3 := yf_f c_62 ho_3
        refine xr_aload_n (n := 112) (j := 2) C dd_X9_digest_3.2.2.2.2.2.2.2.2.2.2.2.2.1 rfl rfl ?_
        refine xr_iload (n := 114) (j := 4) C dd_X9_digest_3.2.2.2.2.2.2.2.2.2.2.2.2.2.1 rfl rfl ?_
        obtain ⟨g_64, ho_3⟩ := yf_g ho_3
        refine xr_aald (n := 115) C 14 0 rfl 3 rfl rfl g_64 rfl dd_X9_digest_3.2.2.2.2.2.2.2.2.2.2.2.2.2.2.1 rfl ?_
        refine xr_astore (n := 117) C [(6, .ref (gRd s_3.2.toNatClampNeg)), (0, .ref g), (1, .long s_3.1), (3, .ref gR), (4, .int (nI gRn)), (5, .int s_3.2)] dd_X9_digest_3.2.2.2.2.2.2.2.2.2.2.2.2.2.2.2.1 (by decide) rfl rfl ?_
        refine xr_aload (n := 119) (j := 0) C dd_X9_digest_4.1 rfl rfl ?_
        refine xr_astore (n := 121) C [(7, .ref (gRd s_3.2.toNatClampNeg)), (6, .ref (gRd s_3.2.toNatClampNeg)), (0, .ref g), (1, .long s_3.1), (3, .ref gR), (4, .int (nI gRn)), (5, .int s_3.2)] dd_X9_digest_4.2.1 (by decide) rfl rfl ?_
        refine xr_aload (n := 123) (j := 0) C dd_X9_digest_4.2.2.1 rfl rfl ?_
        refine xr_aleng (n := 124) C 15 1 rfl s_3.2.toNatClampNeg (ylt g_64) rfl dd_X9_digest_4.2.2.2.1 rfl ?_
        refine xr_istore (n := 126) C [(8, .int (nI gRk)), (7, .ref (gRd s_3.2.toNatClampNeg)), (6, .ref (gRd s_3.2.toNatClampNeg)), (0, .ref g), (1, .long s_3.1), (3, .ref gR), (4, .int (nI gRn)), (5, .int s_3.2)] dd_X9_digest_4.2.2.2.2.1 (by decide) rfl rfl ?_
        refine xr_iconst (n := 127) (v := 0) C dd_X9_digest_4.2.2.2.2.2.1 rfl rfl ?_
        refine xr_istore (n := 129) C [(9, .int 0), (8, .int (nI gRk)), (7, .ref (gRd s_3.2.toNatClampNeg)), (6, .ref (gRd s_3.2.toNatClampNeg)), (0, .ref g), (1, .long s_3.1), (3, .ref gR), (4, .int (nI gRn)), (5, .int s_3.2)] dd_X9_digest_4.2.2.2.2.2.2.1 (by decide) rfl rfl ?_
        refine xr_lv (lv' := [(0, .ref g), (1, .long s_3.1), (3, .ref gR), (4, .int (nI gRn)), (5, .int s_3.2), (7, .ref (gRd s_3.2.toNatClampNeg)), (8, .int (nI gRk)), (9, .int 0)]) [4, 5, 6, 7, 8, 2, 1, 0] rfl ?_
        obtain ⟨b_65, hb_65, ho_3⟩ := yf_b ho_3
        have K_65 : X p l e (yR 7 300 600) s m args below meth c D A H0 11 Q [[(g, .inr (11, [.int 0, .ref gw, .ref gB, .ref gK, .ref gU, .ref gS, .int gbe, .int gwo, .long gta, .ref gn, .int glr, .int glc, .int gti, .int ggo, .ref gR, .int gch, .ref gD]))], [(gw, .inr (10, [.int gwr, .int gwk, .int gwc, .int gwg, .int gws, .ref gwa, .ref gwb]))], [(gwa, .inl (cy 3, gwan, .inr (.inr (.inr (.inr (yad gwad))))))], xg_rows gwad gwan (cy 1) gwak gwaG, [(gwb, .inl (cy 3, gwbn, .inr (.inr (.inr (.inr (yad gwbd))))))], xg_rows gwbd gwbn (cy 1) gwbk gwbG, [(gB, .inl (cy 4, 5, .inr (.inr (.inr (.inr (yad gBd))))))], xg_rows gBd 5 (cy 2) 5 gBG, [(gK, .inl (cy 4, 5, .inr (.inr (.inr (.inr (yad gKd))))))], xg_rows gKd 5 (cy 2) 5 gKG, [(gU, .inl (cy 3, 5, .inr (.inr (.inr (.inr (yad gUd))))))], xg_rows gUd 5 (cy 1) 5 gUG, [(gS, .inl (cy 3, 5, .inr (.inr (.inr (.inr (yad gSd))))))], xg_rows gSd 5 (cy 1) 5 gSG, [(gR, .inl (cy 3, gRn, .inr (.inr (.inr (.inr (yad gRd))))))], xg_rows gRd gRn (cy 1) gRk gRG, [(gn, .inr (10, [.int gnr, .int gnk, .int gnc, .int gng, .int gns, .ref gna, .ref gnb]))], [(gna, .inl (cy 3, gnan, .inr (.inr (.inr (.inr (yad gnad))))))], xg_rows gnad gnan (cy 1) gnak gnaG, [(gnb, .inl (cy 3, gnbn, .inr (.inr (.inr (.inr (yad gnbd))))))], xg_rows gnbd gnbn (cy 1) gnbk gnbG] 0 0 [(0, .ref g), (1, .long b_65.1), (3, .ref gR), (4, .int (nI gRn)), (5, .int s_3.2)] 157 [] := by
          refine xr_iinc (j := 4) (v := s_3.2 + 1) (n := 160) C [(5, .int (s_3.2 + 1)), (0, .ref g), (1, .long b_65.1), (3, .ref gR), (4, .int (nI gRn))] dd_X9_digest_5.2.2.2.2.2.1 rfl rfl (by decide) rfl rfl ?_
          refine xr_goto (tgt := 104) C dd_X9_digest_5.2.2.2.2.2.2.1 rfl ?_
          refine xr_lv (lv' := [(0, .ref g), (1, .long b_65.1), (3, .ref gR), (4, .int (nI gRn)), (5, .int (s_3.2 + 1))]) [1, 2, 3, 4, 0] rfl ?_
          exact hk_3 (b_65.1, s_3.2 + 1) (Option.some.inj ho_3).symm
        refine y_loop (P := fun (s_65 : Int64 × Int32) => X p l e (yR 7 300 600) s m args below meth c D A H0 11 Q [[(g, .inr (11, [.int 0, .ref gw, .ref gB, .ref gK, .ref gU, .ref gS, .int gbe, .int gwo, .long gta, .ref gn, .int glr, .int glc, .int gti, .int ggo, .ref gR, .int gch, .ref gD]))], [(gw, .inr (10, [.int gwr, .int gwk, .int gwc, .int gwg, .int gws, .ref gwa, .ref gwb]))], [(gwa, .inl (cy 3, gwan, .inr (.inr (.inr (.inr (yad gwad))))))], xg_rows gwad gwan (cy 1) gwak gwaG, [(gwb, .inl (cy 3, gwbn, .inr (.inr (.inr (.inr (yad gwbd))))))], xg_rows gwbd gwbn (cy 1) gwbk gwbG, [(gB, .inl (cy 4, 5, .inr (.inr (.inr (.inr (yad gBd))))))], xg_rows gBd 5 (cy 2) 5 gBG, [(gK, .inl (cy 4, 5, .inr (.inr (.inr (.inr (yad gKd))))))], xg_rows gKd 5 (cy 2) 5 gKG, [(gU, .inl (cy 3, 5, .inr (.inr (.inr (.inr (yad gUd))))))], xg_rows gUd 5 (cy 1) 5 gUG, [(gS, .inl (cy 3, 5, .inr (.inr (.inr (.inr (yad gSd))))))], xg_rows gSd 5 (cy 1) 5 gSG, [(gR, .inl (cy 3, gRn, .inr (.inr (.inr (.inr (yad gRd))))))], xg_rows gRd gRn (cy 1) gRk gRG, [(gn, .inr (10, [.int gnr, .int gnk, .int gnc, .int gng, .int gns, .ref gna, .ref gnb]))], [(gna, .inl (cy 3, gnan, .inr (.inr (.inr (.inr (yad gnad))))))], xg_rows gnad gnan (cy 1) gnak gnaG, [(gnb, .inl (cy 3, gnbn, .inr (.inr (.inr (.inr (yad gnbd))))))], xg_rows gnbd gnbn (cy 1) gnbk gnbG] 0 0 [(0, .ref g), (1, .long s_65.1), (3, .ref gR), (4, .int (nI gRn)), (5, .int s_3.2), (7, .ref (gRd s_3.2.toNatClampNeg)), (8, .int (nI gRk)), (9, .int s_65.2)] 129 []) ?_ _ (s_3.1, 0) hb_65
        intro s_65 o_65 ho_65 hk_65 hx_65
        refine xr_iload (n := 131) (j := 7) C dd_X9_digest_4.2.2.2.2.2.2.2.1 rfl rfl ?_
        refine xr_iload (n := 133) (j := 6) C dd_X9_digest_4.2.2.2.2.2.2.2.2.1 rfl rfl ?_
        refine xr_icmp_ge (tgt := 157) (n := 136) C dd_X9_digest_4.2.2.2.2.2.2.2.2.2.1 rfl rfl (fun c_66 => ?_) (fun c_66 => ?_)
        · replace ho_65 := yf_t c_66 ho_65
          refine xr_lv (lv' := [(0, .ref g), (1, .long s_65.1), (3, .ref gR), (4, .int (nI gRn)), (5, .int s_3.2)]) [0, 1, 2, 3, 4] rfl ?_
          have e_67 := hx_65 _ (Option.some.inj ho_65).symm
          subst e_67
          exact K_65
        · replace ho_65 := yf_f c_66 ho_65
          refine xr_aload (n := 138) (j := 5) C dd_X9_digest_4.2.2.2.2.2.2.2.2.2.2.1 rfl rfl ?_
          refine xr_iload (n := 140) (j := 7) C dd_X9_digest_4.2.2.2.2.2.2.2.2.2.2.2.1 rfl rfl ?_
          obtain ⟨g_68, ho_65⟩ := yf_g ho_65
          refine xr_ialdg (n := 141) C 15 rfl s_3.2.toNatClampNeg (ylt g_64) g_68 dd_X9_digest_4.2.2.2.2.2.2.2.2.2.2.2.2.1 rfl ?_
          obtain ⟨y_69, ey_69, ho_65⟩ := yf_l ho_65
          refine xr_topI ey_69 ?_
          refine xr_istore (n := 143) C [(10, .int y_69), (0, .ref g), (1, .long s_65.1), (3, .ref gR), (4, .int (nI gRn)), (5, .int s_3.2), (7, .ref (gRd s_3.2.toNatClampNeg)), (8, .int (nI gRk)), (9, .int s_65.2)] dd_X9_digest_4.2.2.2.2.2.2.2.2.2.2.2.2.2.1 (by decide) rfl rfl ?_
          refine xr_lload_n (n := 144) (j := 2) C dd_X9_digest_4.2.2.2.2.2.2.2.2.2.2.2.2.2.2.1 rfl rfl ?_
          refine xr_iload (n := 146) (j := 0) C dd_X9_digest_4.2.2.2.2.2.2.2.2.2.2.2.2.2.2.2.1 rfl rfl ?_
          refine xr_i2l (n := 147) C dd_X9_digest_5.1 rfl ?_
          obtain ⟨x_70, hx_70, ho_65⟩ := yf_b ho_65
          refine xr_callSp (n := 150) (As := [.long s_65.1, .long y_69.toInt64]) (rest := []) C (kX9_add l D cy (i1 := s_65.1) (i2 := y_69.toInt64) hx_70) mX9_add u_1589 u_1590 21 [] [0, 1, 2, 3, 4, 5, 6, 7, 8, 9, 10, 11, 12, 13, 14, 15, 16, 17, 18, 19, 20] rfl (by decide +kernel) rfl rfl rfl rfl (Nat.le_of_ble_eq_true rfl) (Nat.le_of_ble_eq_true rfl) (Nat.le_of_ble_eq_true rfl) (Nat.le_of_ble_eq_true rfl) (Nat.le_of_ble_eq_true rfl) dd_X9_digest_5.2.1 rfl (fun _ _ hp => hp.2) (fun v_71 hp_73 => ?_)
          obtain ⟨rfl, -⟩ := hp_73
          refine xr_st (st' := [.long x_70]) rfl ?_
          refine xr_lstore_n (n := 151) C [(1, .long x_70), (10, .int y_69), (0, .ref g), (3, .ref gR), (4, .int (nI gRn)), (5, .int s_3.2), (7, .ref (gRd s_3.2.toNatClampNeg)), (8, .int (nI gRk)), (9, .int s_65.2)] dd_X9_digest_5.2.2.1 (by decide) rfl rfl ?_
          refine xr_iinc (j := 8) (v := s_65.2 + 1) (n := 154) C [(9, .int (s_65.2 + 1)), (1, .long x_70), (10, .int y_69), (0, .ref g), (3, .ref gR), (4, .int (nI gRn)), (5, .int s_3.2), (7, .ref (gRd s_3.2.toNatClampNeg)), (8, .int (nI gRk))] dd_X9_digest_5.2.2.2.1 rfl rfl (by decide) rfl rfl ?_
          refine xr_goto (tgt := 129) C dd_X9_digest_5.2.2.2.2.1 rfl ?_
          refine xr_lv (lv' := [(0, .ref g), (1, .long x_70), (3, .ref gR), (4, .int (nI gRn)), (5, .int s_3.2), (7, .ref (gRd s_3.2.toNatClampNeg)), (8, .int (nI gRk)), (9, .int (s_65.2 + 1))]) [3, 1, 4, 5, 6, 7, 8, 0] rfl ?_
          exact hk_65 (x_70, s_65.2 + 1) (Option.some.inj ho_65).symm
    refine y_loop (P := fun (s_2 : Int64 × Int32) => X p l e (yR 7 300 600) s m args below meth c D A H0 11 Q [[(g, .inr (11, [.int 0, .ref gw, .ref gB, .ref gK, .ref gU, .ref gS, .int gbe, .int gwo, .long gta, .ref gn, .int glr, .int glc, .int gti, .int ggo, .ref gR, .int gch, .ref gD]))], [(gw, .inr (10, [.int gwr, .int gwk, .int gwc, .int gwg, .int gws, .ref gwa, .ref gwb]))], [(gwa, .inl (cy 3, gwan, .inr (.inr (.inr (.inr (yad gwad))))))], xg_rows gwad gwan (cy 1) gwak gwaG, [(gwb, .inl (cy 3, gwbn, .inr (.inr (.inr (.inr (yad gwbd))))))], xg_rows gwbd gwbn (cy 1) gwbk gwbG, [(gB, .inl (cy 4, 5, .inr (.inr (.inr (.inr (yad gBd))))))], xg_rows gBd 5 (cy 2) 5 gBG, [(gK, .inl (cy 4, 5, .inr (.inr (.inr (.inr (yad gKd))))))], xg_rows gKd 5 (cy 2) 5 gKG, [(gU, .inl (cy 3, 5, .inr (.inr (.inr (.inr (yad gUd))))))], xg_rows gUd 5 (cy 1) 5 gUG, [(gS, .inl (cy 3, 5, .inr (.inr (.inr (.inr (yad gSd))))))], xg_rows gSd 5 (cy 1) 5 gSG, [(gR, .inl (cy 3, gRn, .inr (.inr (.inr (.inr (yad gRd))))))], xg_rows gRd gRn (cy 1) gRk gRG, [(gn, .inr (10, [.int gnr, .int gnk, .int gnc, .int gng, .int gns, .ref gna, .ref gnb]))], [(gna, .inl (cy 3, gnan, .inr (.inr (.inr (.inr (yad gnad))))))], xg_rows gnad gnan (cy 1) gnak gnaG, [(gnb, .inl (cy 3, gnbn, .inr (.inr (.inr (.inr (yad gnbd))))))], xg_rows gnbd gnbn (cy 1) gnbk gnbG] 0 0 [(0, .ref g), (1, .long s_2.1), (3, .int s_2.2)] 36 []) ?_ _ (b_1.1, 0) hb_2
    intro s_2 o_2 ho_2 hk_2 hx_2
    refine xr_iload_n (n := 37) (j := 2) C dd_X9_digest_1.2.2.2.2.2.1 rfl rfl ?_
    refine xr_iconst (n := 38) (v := 5) C dd_X9_digest_1.2.2.2.2.2.2.1 rfl rfl ?_
    refine xr_icmp_ge (tgt := 92) (n := 41) C dd_X9_digest_1.2.2.2.2.2.2.2.1 rfl rfl (fun c_74 => ?_) (fun c_74 => ?_)
    · replace ho_2 := yf_t c_74 ho_2
      refine xr_lv (lv' := [(0, .ref g), (1, .long s_2.1)]) [0, 1] rfl ?_
      have e_75 := hx_2 _ (Option.some.inj ho_2).symm
      subst e_75
      exact K_2
    · replace ho_2 := yf_f c_74 ho_2
      refine xr_iconst (n := 42) (v := 0) C dd_X9_digest_1.2.2.2.2.2.2.2.2.1 rfl rfl ?_
      refine xr_istore (n := 44) C [(4, .int 0), (0, .ref g), (1, .long s_2.1), (3, .int s_2.2)] dd_X9_digest_1.2.2.2.2.2.2.2.2.2.1 (by decide) rfl rfl ?_
      refine xr_lv (lv' := [(0, .ref g), (1, .long s_2.1), (3, .int s_2.2), (4, .int 0)]) [1, 2, 3, 0] rfl ?_
      obtain ⟨b_76, hb_76, ho_2⟩ := yf_b ho_2
      have K_76 : X p l e (yR 7 300 600) s m args below meth c D A H0 11 Q [[(g, .inr (11, [.int 0, .ref gw, .ref gB, .ref gK, .ref gU, .ref gS, .int gbe, .int gwo, .long gta, .ref gn, .int glr, .int glc, .int gti, .int ggo, .ref gR, .int gch, .ref gD]))], [(gw, .inr (10, [.int gwr, .int gwk, .int gwc, .int gwg, .int gws, .ref gwa, .ref gwb]))], [(gwa, .inl (cy 3, gwan, .inr (.inr (.inr (.inr (yad gwad))))))], xg_rows gwad gwan (cy 1) gwak gwaG, [(gwb, .inl (cy 3, gwbn, .inr (.inr (.inr (.inr (yad gwbd))))))], xg_rows gwbd gwbn (cy 1) gwbk gwbG, [(gB, .inl (cy 4, 5, .inr (.inr (.inr (.inr (yad gBd))))))], xg_rows gBd 5 (cy 2) 5 gBG, [(gK, .inl (cy 4, 5, .inr (.inr (.inr (.inr (yad gKd))))))], xg_rows gKd 5 (cy 2) 5 gKG, [(gU, .inl (cy 3, 5, .inr (.inr (.inr (.inr (yad gUd))))))], xg_rows gUd 5 (cy 1) 5 gUG, [(gS, .inl (cy 3, 5, .inr (.inr (.inr (.inr (yad gSd))))))], xg_rows gSd 5 (cy 1) 5 gSG, [(gR, .inl (cy 3, gRn, .inr (.inr (.inr (.inr (yad gRd))))))], xg_rows gRd gRn (cy 1) gRk gRG, [(gn, .inr (10, [.int gnr, .int gnk, .int gnc, .int gng, .int gns, .ref gna, .ref gnb]))], [(gna, .inl (cy 3, gnan, .inr (.inr (.inr (.inr (yad gnad))))))], xg_rows gnad gnan (cy 1) gnak gnaG, [(gnb, .inl (cy 3, gnbn, .inr (.inr (.inr (.inr (yad gnbd))))))], xg_rows gnbd gnbn (cy 1) gnbk gnbG] 0 0 [(0, .ref g), (1, .long b_76.1), (3, .int s_2.2)] 86 [] := by
        refine xr_iinc (j := 2) (v := s_2.2 + 1) (n := 89) C [(3, .int (s_2.2 + 1)), (0, .ref g), (1, .long b_76.1)] dd_X9_digest_2.2.2.2.2.2.2.2.2.2.2.2.2.2.2.2.1 rfl rfl (by decide) rfl rfl ?_
        refine xr_goto (tgt := 36) C dd_X9_digest_3.1 rfl ?_
        refine xr_lv (lv' := [(0, .ref g), (1, .long b_76.1), (3, .int (s_2.2 + 1))]) [1, 2, 0] rfl ?_
        exact hk_2 (b_76.1, s_2.2 + 1) (Option.some.inj ho_2).symm
      refine y_loop (P := fun (s_76 : Int64 × Int32) => X p l e (yR 7 300 600) s m args below meth c D A H0 11 Q [[(g, .inr (11, [.int 0, .ref gw, .ref gB, .ref gK, .ref gU, .ref gS, .int gbe, .int gwo, .long gta, .ref gn, .int glr, .int glc, .int gti, .int ggo, .ref gR, .int gch, .ref gD]))], [(gw, .inr (10, [.int gwr, .int gwk, .int gwc, .int gwg, .int gws, .ref gwa, .ref gwb]))], [(gwa, .inl (cy 3, gwan, .inr (.inr (.inr (.inr (yad gwad))))))], xg_rows gwad gwan (cy 1) gwak gwaG, [(gwb, .inl (cy 3, gwbn, .inr (.inr (.inr (.inr (yad gwbd))))))], xg_rows gwbd gwbn (cy 1) gwbk gwbG, [(gB, .inl (cy 4, 5, .inr (.inr (.inr (.inr (yad gBd))))))], xg_rows gBd 5 (cy 2) 5 gBG, [(gK, .inl (cy 4, 5, .inr (.inr (.inr (.inr (yad gKd))))))], xg_rows gKd 5 (cy 2) 5 gKG, [(gU, .inl (cy 3, 5, .inr (.inr (.inr (.inr (yad gUd))))))], xg_rows gUd 5 (cy 1) 5 gUG, [(gS, .inl (cy 3, 5, .inr (.inr (.inr (.inr (yad gSd))))))], xg_rows gSd 5 (cy 1) 5 gSG, [(gR, .inl (cy 3, gRn, .inr (.inr (.inr (.inr (yad gRd))))))], xg_rows gRd gRn (cy 1) gRk gRG, [(gn, .inr (10, [.int gnr, .int gnk, .int gnc, .int gng, .int gns, .ref gna, .ref gnb]))], [(gna, .inl (cy 3, gnan, .inr (.inr (.inr (.inr (yad gnad))))))], xg_rows gnad gnan (cy 1) gnak gnaG, [(gnb, .inl (cy 3, gnbn, .inr (.inr (.inr (.inr (yad gnbd))))))], xg_rows gnbd gnbn (cy 1) gnbk gnbG] 0 0 [(0, .ref g), (1, .long s_76.1), (3, .int s_2.2), (4, .int s_76.2)] 44 []) ?_ _ (s_2.1, 0) hb_76
      intro s_76 o_76 ho_76 hk_76 hx_76
      refine xr_iload (n := 46) (j := 3) C dd_X9_digest_1.2.2.2.2.2.2.2.2.2.2.1 rfl rfl ?_
      refine xr_iconst (n := 47) (v := 5) C dd_X9_digest_1.2.2.2.2.2.2.2.2.2.2.2.1 rfl rfl ?_
      refine xr_icmp_ge (tgt := 86) (n := 50) C dd_X9_digest_1.2.2.2.2.2.2.2.2.2.2.2.2.1 rfl rfl (fun c_77 => ?_) (fun c_77 => ?_)
      · replace ho_76 := yf_t c_77 ho_76
        refine xr_lv (lv' := [(0, .ref g), (1, .long s_76.1), (3, .int s_2.2)]) [0, 1, 2] rfl ?_
        have e_78 := hx_76 _ (Option.some.inj ho_76).symm
        subst e_78
        exact K_76
      · replace ho_76 := yf_f c_77 ho_76
        refine xr_iconst (n := 51) (v := 0) C dd_X9_digest_1.2.2.2.2.2.2.2.2.2.2.2.2.2.1 rfl rfl ?_
        refine xr_istore (n := 53) C [(5, .int 0), (0, .ref g), (1, .long s_76.1), (3, .int s_2.2), (4, .int s_76.2)] dd_X9_digest_1.2.2.2.2.2.2.2.2.2.2.2.2.2.2.1 (by decide) rfl rfl ?_
        refine xr_lv (lv' := [(0, .ref g), (1, .long s_76.1), (3, .int s_2.2), (4, .int s_76.2), (5, .int 0)]) [1, 2, 3, 4, 0] rfl ?_
        obtain ⟨b_79, hb_79, ho_76⟩ := yf_b ho_76
        have K_79 : X p l e (yR 7 300 600) s m args below meth c D A H0 11 Q [[(g, .inr (11, [.int 0, .ref gw, .ref gB, .ref gK, .ref gU, .ref gS, .int gbe, .int gwo, .long gta, .ref gn, .int glr, .int glc, .int gti, .int ggo, .ref gR, .int gch, .ref gD]))], [(gw, .inr (10, [.int gwr, .int gwk, .int gwc, .int gwg, .int gws, .ref gwa, .ref gwb]))], [(gwa, .inl (cy 3, gwan, .inr (.inr (.inr (.inr (yad gwad))))))], xg_rows gwad gwan (cy 1) gwak gwaG, [(gwb, .inl (cy 3, gwbn, .inr (.inr (.inr (.inr (yad gwbd))))))], xg_rows gwbd gwbn (cy 1) gwbk gwbG, [(gB, .inl (cy 4, 5, .inr (.inr (.inr (.inr (yad gBd))))))], xg_rows gBd 5 (cy 2) 5 gBG, [(gK, .inl (cy 4, 5, .inr (.inr (.inr (.inr (yad gKd))))))], xg_rows gKd 5 (cy 2) 5 gKG, [(gU, .inl (cy 3, 5, .inr (.inr (.inr (.inr (yad gUd))))))], xg_rows gUd 5 (cy 1) 5 gUG, [(gS, .inl (cy 3, 5, .inr (.inr (.inr (.inr (yad gSd))))))], xg_rows gSd 5 (cy 1) 5 gSG, [(gR, .inl (cy 3, gRn, .inr (.inr (.inr (.inr (yad gRd))))))], xg_rows gRd gRn (cy 1) gRk gRG, [(gn, .inr (10, [.int gnr, .int gnk, .int gnc, .int gng, .int gns, .ref gna, .ref gnb]))], [(gna, .inl (cy 3, gnan, .inr (.inr (.inr (.inr (yad gnad))))))], xg_rows gnad gnan (cy 1) gnak gnaG, [(gnb, .inl (cy 3, gnbn, .inr (.inr (.inr (.inr (yad gnbd))))))], xg_rows gnbd gnbn (cy 1) gnbk gnbG] 0 0 [(0, .ref g), (1, .long b_79.1), (3, .int s_2.2), (4, .int s_76.2)] 80 [] := by
          refine xr_iinc (j := 3) (v := s_76.2 + 1) (n := 83) C [(4, .int (s_76.2 + 1)), (0, .ref g), (1, .long b_79.1), (3, .int s_2.2)] dd_X9_digest_2.2.2.2.2.2.2.2.2.2.2.2.2.2.1 rfl rfl (by decide) rfl rfl ?_
          refine xr_goto (tgt := 44) C dd_X9_digest_2.2.2.2.2.2.2.2.2.2.2.2.2.2.2.1 rfl ?_
          refine xr_lv (lv' := [(0, .ref g), (1, .long b_79.1), (3, .int s_2.2), (4, .int (s_76.2 + 1))]) [1, 2, 3, 0] rfl ?_
          exact hk_76 (b_79.1, s_76.2 + 1) (Option.some.inj ho_76).symm
        refine y_loop (P := fun (s_79 : Int64 × Int32) => X p l e (yR 7 300 600) s m args below meth c D A H0 11 Q [[(g, .inr (11, [.int 0, .ref gw, .ref gB, .ref gK, .ref gU, .ref gS, .int gbe, .int gwo, .long gta, .ref gn, .int glr, .int glc, .int gti, .int ggo, .ref gR, .int gch, .ref gD]))], [(gw, .inr (10, [.int gwr, .int gwk, .int gwc, .int gwg, .int gws, .ref gwa, .ref gwb]))], [(gwa, .inl (cy 3, gwan, .inr (.inr (.inr (.inr (yad gwad))))))], xg_rows gwad gwan (cy 1) gwak gwaG, [(gwb, .inl (cy 3, gwbn, .inr (.inr (.inr (.inr (yad gwbd))))))], xg_rows gwbd gwbn (cy 1) gwbk gwbG, [(gB, .inl (cy 4, 5, .inr (.inr (.inr (.inr (yad gBd))))))], xg_rows gBd 5 (cy 2) 5 gBG, [(gK, .inl (cy 4, 5, .inr (.inr (.inr (.inr (yad gKd))))))], xg_rows gKd 5 (cy 2) 5 gKG, [(gU, .inl (cy 3, 5, .inr (.inr (.inr (.inr (yad gUd))))))], xg_rows gUd 5 (cy 1) 5 gUG, [(gS, .inl (cy 3, 5, .inr (.inr (.inr (.inr (yad gSd))))))], xg_rows gSd 5 (cy 1) 5 gSG, [(gR, .inl (cy 3, gRn, .inr (.inr (.inr (.inr (yad gRd))))))], xg_rows gRd gRn (cy 1) gRk gRG, [(gn, .inr (10, [.int gnr, .int gnk, .int gnc, .int gng, .int gns, .ref gna, .ref gnb]))], [(gna, .inl (cy 3, gnan, .inr (.inr (.inr (.inr (yad gnad))))))], xg_rows gnad gnan (cy 1) gnak gnaG, [(gnb, .inl (cy 3, gnbn, .inr (.inr (.inr (.inr (yad gnbd))))))], xg_rows gnbd gnbn (cy 1) gnbk gnbG] 0 0 [(0, .ref g), (1, .long s_79.1), (3, .int s_2.2), (4, .int s_76.2), (5, .int s_79.2)] 53 []) ?_ _ (s_76.1, 0) hb_79
        intro s_79 o_79 ho_79 hk_79 hx_79
        refine xr_iload (n := 55) (j := 4) C dd_X9_digest_1.2.2.2.2.2.2.2.2.2.2.2.2.2.2.2.1 rfl rfl ?_
        refine xr_iconst (n := 56) (v := 4) C dd_X9_digest_2.1 rfl rfl ?_
        refine xr_icmp_ge (tgt := 80) (n := 59) C dd_X9_digest_2.2.1 rfl rfl (fun c_80 => ?_) (fun c_80 => ?_)
        · replace ho_79 := yf_t c_80 ho_79
          refine xr_lv (lv' := [(0, .ref g), (1, .long s_79.1), (3, .int s_2.2), (4, .int s_76.2)]) [0, 1, 2, 3] rfl ?_
          have e_81 := hx_79 _ (Option.some.inj ho_79).symm
          subst e_81
          exact K_79
        · replace ho_79 := yf_f c_80 ho_79
          refine xr_lload_n (n := 60) (j := 1) C dd_X9_digest_2.2.2.1 rfl rfl ?_
          refine xr_aload_n (n := 61) (j := 0) C dd_X9_digest_2.2.2.2.1 rfl rfl ?_
          refine xr_iload_n (n := 62) (j := 2) C dd_X9_digest_2.2.2.2.2.1 rfl rfl ?_
          refine xr_iload (n := 64) (j := 3) C dd_X9_digest_2.2.2.2.2.2.1 rfl rfl ?_
          refine xr_iload (n := 66) (j := 4) C dd_X9_digest_2.2.2.2.2.2.2.1 rfl rfl ?_
          obtain ⟨x_82, hx_82, ho_79⟩ := yf_b ho_79
          refine xr_callVp (n := 69) (As := [.int s_2.2, .int s_76.2, .int s_79.2]) (rest := [.long s_79.1]) C (kX9_cellTold_r l D cy (g := g) (gth := 0) (gw := gw) (gB := gB) (gK := gK) (gU := gU) (gS := gS) (gbe := gbe) (gwo := gwo) (gta := gta) (gn := gn) (glr := glr) (glc := glc) (gti := gti) (ggo := ggo) (gR := gR) (gch := gch) (gD := gD) (gBd := gBd) (gBG := gBG) (gKd := gKd) (gKG := gKG) (gUd := gUd) (gUG := gUG) (gSd := gSd) (gSG := gSG) (gnr := gnr) (gnk := gnk) (gnc := gnc) (gng := gng) (gns := gns) (gna := gna) (gnb := gnb) (gnad := gnad) (gnan := gnan) (gnak := gnak) (gnaG := gnaG) (gnbd := gnbd) (gnbn := gnbn) (gnbk := gnbk) (gnbG := gnbG) (i1 := s_2.2) (i2 := s_76.2) (i3 := s_79.2) hx_82) mX9_cellTold u_1516 u_1518 u_50 0 rfl rfl 21 [0, 6, 7, 8, 9, 10, 11, 12, 13, 16, 17, 18, 19, 20] [1, 2, 3, 4, 5, 14, 15] rfl (by decide +kernel) rfl rfl rfl rfl (Nat.le_of_ble_eq_true rfl) (Nat.le_of_ble_eq_true rfl) (Nat.le_of_ble_eq_true rfl) (Nat.le_of_ble_eq_true rfl) (Nat.le_of_ble_eq_true rfl) dd_X9_digest_2.2.2.2.2.2.2.2.1 rfl (fun _ _ hp => hp.2) (fun v_83 hp_85 => ?_)
          obtain ⟨rfl, -⟩ := hp_85
          refine xr_st (st' := [.int x_82, .long s_79.1]) rfl ?_
          refine xr_i2l (n := 70) C dd_X9_digest_2.2.2.2.2.2.2.2.2.1 rfl ?_
          obtain ⟨x_86, hx_86, ho_79⟩ := yf_b ho_79
          refine xr_callSp (n := 73) (As := [.long s_79.1, .long x_82.toInt64]) (rest := []) C (kX9_add l D cy (i1 := s_79.1) (i2 := x_82.toInt64) hx_86) mX9_add u_1589 u_1590 21 [] [0, 1, 2, 3, 4, 5, 6, 7, 8, 9, 10, 11, 12, 13, 14, 15, 16, 17, 18, 19, 20] rfl (by decide +kernel) rfl rfl rfl rfl (Nat.le_of_ble_eq_true rfl) (Nat.le_of_ble_eq_true rfl) (Nat.le_of_ble_eq_true rfl) (Nat.le_of_ble_eq_true rfl) (Nat.le_of_ble_eq_true rfl) dd_X9_digest_2.2.2.2.2.2.2.2.2.2.1 rfl (fun _ _ hp => hp.2) (fun v_87 hp_89 => ?_)
          obtain ⟨rfl, -⟩ := hp_89
          refine xr_st (st' := [.long x_86]) rfl ?_
          refine xr_lstore_n (n := 74) C [(1, .long x_86), (0, .ref g), (3, .int s_2.2), (4, .int s_76.2), (5, .int s_79.2)] dd_X9_digest_2.2.2.2.2.2.2.2.2.2.2.1 (by decide) rfl rfl ?_
          refine xr_iinc (j := 4) (v := s_79.2 + 1) (n := 77) C [(5, .int (s_79.2 + 1)), (1, .long x_86), (0, .ref g), (3, .int s_2.2), (4, .int s_76.2)] dd_X9_digest_2.2.2.2.2.2.2.2.2.2.2.2.1 rfl rfl (by decide) rfl rfl ?_
          refine xr_goto (tgt := 53) C dd_X9_digest_2.2.2.2.2.2.2.2.2.2.2.2.2.1 rfl ?_
          refine xr_lv (lv' := [(0, .ref g), (1, .long x_86), (3, .int s_2.2), (4, .int s_76.2), (5, .int (s_79.2 + 1))]) [2, 1, 3, 4, 0] rfl ?_
          exact hk_79 (x_86, s_79.2 + 1) (Option.some.inj ho_79).symm
  refine y_loop (P := fun (s_1 : Int64 × Int32) => X p l e (yR 7 300 600) s m args below meth c D A H0 11 Q [[(g, .inr (11, [.int 0, .ref gw, .ref gB, .ref gK, .ref gU, .ref gS, .int gbe, .int gwo, .long gta, .ref gn, .int glr, .int glc, .int gti, .int ggo, .ref gR, .int gch, .ref gD]))], [(gw, .inr (10, [.int gwr, .int gwk, .int gwc, .int gwg, .int gws, .ref gwa, .ref gwb]))], [(gwa, .inl (cy 3, gwan, .inr (.inr (.inr (.inr (yad gwad))))))], xg_rows gwad gwan (cy 1) gwak gwaG, [(gwb, .inl (cy 3, gwbn, .inr (.inr (.inr (.inr (yad gwbd))))))], xg_rows gwbd gwbn (cy 1) gwbk gwbG, [(gB, .inl (cy 4, 5, .inr (.inr (.inr (.inr (yad gBd))))))], xg_rows gBd 5 (cy 2) 5 gBG, [(gK, .inl (cy 4, 5, .inr (.inr (.inr (.inr (yad gKd))))))], xg_rows gKd 5 (cy 2) 5 gKG, [(gU, .inl (cy 3, 5, .inr (.inr (.inr (.inr (yad gUd))))))], xg_rows gUd 5 (cy 1) 5 gUG, [(gS, .inl (cy 3, 5, .inr (.inr (.inr (.inr (yad gSd))))))], xg_rows gSd 5 (cy 1) 5 gSG, [(gR, .inl (cy 3, gRn, .inr (.inr (.inr (.inr (yad gRd))))))], xg_rows gRd gRn (cy 1) gRk gRG, [(gn, .inr (10, [.int gnr, .int gnk, .int gnc, .int gng, .int gns, .ref gna, .ref gnb]))], [(gna, .inl (cy 3, gnan, .inr (.inr (.inr (.inr (yad gnad))))))], xg_rows gnad gnan (cy 1) gnak gnaG, [(gnb, .inl (cy 3, gnbn, .inr (.inr (.inr (.inr (yad gnbd))))))], xg_rows gnbd gnbn (cy 1) gnbk gnbG] 0 0 [(0, .ref g), (1, .long s_1.1), (3, .int s_1.2)] 11 []) ?_ _ (5659, 0) hb_1
  intro s_1 o_1 ho_1 hk_1 hx_1
  refine xr_iload_n (n := 12) (j := 2) C dd_X9_digest_0.2.2.2.2.2.2.2.1 rfl rfl ?_
  refine xr_bipush (n := 14) (v := 16) C dd_X9_digest_0.2.2.2.2.2.2.2.2.1 rfl rfl ?_
  refine xr_icmp_ge (tgt := 34) (n := 17) C dd_X9_digest_0.2.2.2.2.2.2.2.2.2.1 rfl rfl (fun c_90 => ?_) (fun c_90 => ?_)
  · replace ho_1 := yf_t c_90 ho_1
    refine xr_lv (lv' := [(0, .ref g), (1, .long s_1.1)]) [0, 1] rfl ?_
    have e_91 := hx_1 _ (Option.some.inj ho_1).symm
    subst e_91
    exact K_1
  · replace ho_1 := yf_f c_90 ho_1
    refine xr_lload_n (n := 18) (j := 1) C dd_X9_digest_0.2.2.2.2.2.2.2.2.2.2.1 rfl rfl ?_
    refine xr_aload_n (n := 19) (j := 0) C dd_X9_digest_0.2.2.2.2.2.2.2.2.2.2.2.1 rfl rfl ?_
    refine xr_iload_n (n := 20) (j := 2) C dd_X9_digest_0.2.2.2.2.2.2.2.2.2.2.2.2.1 rfl rfl ?_
    obtain ⟨x_92, hx_92, ho_1⟩ := yf_b ho_1
    refine xr_callVp (n := 23) (As := [.int s_1.2]) (rest := [.long s_1.1]) C (kX9_meshTold_r l D cy (g := g) (gth := 0) (gw := gw) (gB := gB) (gK := gK) (gU := gU) (gS := gS) (gbe := gbe) (gwo := gwo) (gta := gta) (gn := gn) (glr := glr) (glc := glc) (gti := gti) (ggo := ggo) (gR := gR) (gch := gch) (gD := gD) (gwr := gwr) (gwk := gwk) (gwc := gwc) (gwg := gwg) (gws := gws) (gwa := gwa) (gwb := gwb) (gwad := gwad) (gwan := gwan) (gwak := gwak) (gwaG := gwaG) (gwbd := gwbd) (gwbn := gwbn) (gwbk := gwbk) (gwbG := gwbG) (gBd := gBd) (gBG := gBG) (gKd := gKd) (gKG := gKG) (gRd := gRd) (gRn := gRn) (gRk := gRk) (gRG := gRG) (gnr := gnr) (gnk := gnk) (gnc := gnc) (gng := gng) (gns := gns) (gna := gna) (gnb := gnb) (gnad := gnad) (gnan := gnan) (gnak := gnak) (gnaG := gnaG) (gnbd := gnbd) (gnbn := gnbn) (gnbk := gnbk) (gnbG := gnbG) (i1 := s_1.2) hx_92) mX9_meshTold u_1508 u_1510 u_49 0 rfl rfl 21 [0, 1, 2, 3, 4, 5, 6, 7, 8, 9, 14, 15, 16, 17, 18, 19, 20] [10, 11, 12, 13] rfl (by decide +kernel) rfl rfl rfl rfl (Nat.le_of_ble_eq_true rfl) (Nat.le_of_ble_eq_true rfl) (Nat.le_of_ble_eq_true rfl) (Nat.le_of_ble_eq_true rfl) (Nat.le_of_ble_eq_true rfl) dd_X9_digest_0.2.2.2.2.2.2.2.2.2.2.2.2.2.1 rfl (fun _ _ hp => hp.2) (fun v_93 hp_95 => ?_)
    obtain ⟨rfl, -⟩ := hp_95
    refine xr_st (st' := [.int x_92, .long s_1.1]) rfl ?_
    refine xr_i2l (n := 24) C dd_X9_digest_0.2.2.2.2.2.2.2.2.2.2.2.2.2.2.1 rfl ?_
    obtain ⟨x_96, hx_96, ho_1⟩ := yf_b ho_1
    refine xr_callSp (n := 27) (As := [.long s_1.1, .long x_92.toInt64]) (rest := []) C (kX9_add l D cy (i1 := s_1.1) (i2 := x_92.toInt64) hx_96) mX9_add u_1589 u_1590 21 [] [0, 1, 2, 3, 4, 5, 6, 7, 8, 9, 10, 11, 12, 13, 14, 15, 16, 17, 18, 19, 20] rfl (by decide +kernel) rfl rfl rfl rfl (Nat.le_of_ble_eq_true rfl) (Nat.le_of_ble_eq_true rfl) (Nat.le_of_ble_eq_true rfl) (Nat.le_of_ble_eq_true rfl) (Nat.le_of_ble_eq_true rfl) dd_X9_digest_0.2.2.2.2.2.2.2.2.2.2.2.2.2.2.2.1 rfl (fun _ _ hp => hp.2) (fun v_97 hp_99 => ?_)
    obtain ⟨rfl, -⟩ := hp_99
    refine xr_st (st' := [.long x_96]) rfl ?_
    refine xr_lstore_n (n := 28) C [(1, .long x_96), (0, .ref g), (3, .int s_1.2)] dd_X9_digest_1.1 (by decide) rfl rfl ?_
    refine xr_iinc (j := 2) (v := s_1.2 + 1) (n := 31) C [(3, .int (s_1.2 + 1)), (1, .long x_96), (0, .ref g)] dd_X9_digest_1.2.1 rfl rfl (by decide) rfl rfl ?_
    refine xr_goto (tgt := 11) C dd_X9_digest_1.2.2.1 rfl ?_
    refine xr_lv (lv' := [(0, .ref g), (1, .long x_96), (3, .int (s_1.2 + 1))]) [2, 1, 0] rfl ?_
    exact hk_1 (x_96, s_1.2 + 1) (Option.some.inj ho_1).symm
theorem dX9_init_18 : decode cX9_init 18 = .ok (.multianewarray 22 2, 4) := by decide +kernel
theorem dX9_init_28 : decode cX9_init 28 = .ok (.multianewarray 22 2, 4) := by decide +kernel
theorem dX9_init_38 : decode cX9_init 38 = .ok (.multianewarray 30 2, 4) := by decide +kernel
theorem dX9_init_48 : decode cX9_init 48 = .ok (.multianewarray 30 2, 4) := by decide +kernel
theorem dX9_init_58 : decode cX9_init 58 = .ok (.multianewarray 30 2, 4) := by decide +kernel
theorem dX9_init_68 : decode cX9_init 68 = .ok (.multianewarray 30 2, 4) := by decide +kernel
theorem dd_X9_init_0 : dk_R cX9_init [(0, .aload_n 0, 1), (1, .invokespecial 7, 3), (4, .aload_n 0, 1), (5, .new 13, 3), (8, .dup, 1), (9, .invokespecial 15, 3), (12, .putfield 16, 3), (15, .aload_n 0, 1), (16, .iconst 5, 1), (17, .iconst 5, 1), (22, .putfield 24, 3), (25, .aload_n 0, 1), (26, .iconst 5, 1), (27, .iconst 5, 1), (32, .putfield 27, 3), (35, .aload_n 0, 1)] := dk_use _ _ (by decide +kernel)
theorem dd_X9_init_1 : dk_R cX9_init [(36, .iconst 5, 1), (37, .iconst 5, 1), (42, .putfield 32, 3), (45, .aload_n 0, 1), (46, .iconst 5, 1), (47, .iconst 5, 1), (52, .putfield 35, 3), (55, .aload_n 0, 1), (56, .iconst 0, 1), (57, .iconst 0, 1), (62, .putfield 38, 3), (65, .aload_n 0, 1), (66, .iconst 0, 1), (67, .iconst 0, 1), (72, .putfield 41, 3), (75, .aload_n 0, 1)] := dk_use _ _ (by decide +kernel)
theorem dd_X9_init_2 : dk_R cX9_init [(76, .iconst 2, 1), (77, .iconst 2, 1), (78, .iconst 2, 1), (79, .invokevirtual 44, 3), (82, .return_, 1)] := dk_use _ _ (by decide +kernel)
def fX9_init  : Option (Int32 × Int32 × Int32 × Int64 × Int32 × Int32 × Int32 × Int32 × Int32 × Int32 × Int32 × Int32 × Int32 × Int32 × Nat × Nat × (Nat → Nat → Int32) × Nat × Nat × (Nat → Nat → Int32)) := ((fX8_init).bind fun x_2 => ((fX9_lay_0 2 2 2).bind fun x_18 => some (0, 0, 0, 0, 0, 0, 0, 0, 0, x_18.1, x_18.2.1, x_18.2.2.1, 0, 0, x_18.2.2.2.1, x_18.2.2.2.2.1, x_18.2.2.2.2.2.1, x_18.2.2.2.2.2.2.1, x_18.2.2.2.2.2.2.2.1, x_18.2.2.2.2.2.2.2.2)))
abbrev hX9_init : Cond := .code yX9_init cX9_init 1 none
theorem mX9_init : yM yX9_init hX9_init 0 := ⟨u_1192, u_64, by decide +kernel, by decide +kernel, by decide +kernel⟩
set_option maxHeartbeats 4000000 in
set_option maxRecDepth 100000 in
theorem kX9_init (l : Launch) (D : va_G) (cy : Nat → ClassId) (g : Nat) {res : Int32 × Int32 × Int32 × Int64 × Int32 × Int32 × Int32 × Int32 × Int32 × Int32 × Int32 × Int32 × Int32 × Int32 × Nat × Nat × (Nat → Nat → Int32) × Nat × Nat × (Nat → Nat → Int32)} (hR : fX9_init  = some res) : YM l D cy yX9_init hX9_init 2 47 307 [.ref g] [[(g, .inr (11, [.int 0, .null, .null, .null, .null, .null, .int 0, .int 0, .long 0, .null, .int 0, .int 0, .int 0, .int 0, .null, .int 0, .null]))]] (fun v u => ∃ gw : Nat, ∃ gB : Nat, ∃ gK : Nat, ∃ gU : Nat, ∃ gS : Nat, ∃ gR : Nat, ∃ gD : Nat, ∃ gwa : Nat, ∃ gwb : Nat, ∃ gwad : Nat → Nat, ∃ gwbd : Nat → Nat, ∃ gBd : Nat → Nat, ∃ gKd : Nat → Nat, ∃ gUd : Nat → Nat, ∃ gSd : Nat → Nat, ∃ gRd : Nat → Nat, ∃ gDd : Nat → Nat, v = none ∧ u = [[(g, .inr (11, [.int res.1, .ref gw, .ref gB, .ref gK, .ref gU, .ref gS, .int res.2.1, .int res.2.2.1, .long res.2.2.2.1, .null, .int res.2.2.2.2.1, .int res.2.2.2.2.2.1, .int res.2.2.2.2.2.2.1, .int res.2.2.2.2.2.2.2.1, .ref gR, .int res.2.2.2.2.2.2.2.2.1, .ref gD]))], [(gw, .inr (10, [.int res.2.2.2.2.2.2.2.2.2.1, .int res.2.2.2.2.2.2.2.2.2.2.1, .int res.2.2.2.2.2.2.2.2.2.2.2.1, .int res.2.2.2.2.2.2.2.2.2.2.2.2.1, .int res.2.2.2.2.2.2.2.2.2.2.2.2.2.1, .ref gwa, .ref gwb]))], [(gwa, .inl (cy 3, res.2.2.2.2.2.2.2.2.2.2.2.2.2.2.1, .inr (.inr (.inr (.inr (yad gwad))))))], xg_rows gwad res.2.2.2.2.2.2.2.2.2.2.2.2.2.2.1 (cy 1) res.2.2.2.2.2.2.2.2.2.2.2.2.2.2.2.1 res.2.2.2.2.2.2.2.2.2.2.2.2.2.2.2.2.1, [(gwb, .inl (cy 3, res.2.2.2.2.2.2.2.2.2.2.2.2.2.2.2.2.2.1, .inr (.inr (.inr (.inr (yad gwbd))))))], xg_rows gwbd res.2.2.2.2.2.2.2.2.2.2.2.2.2.2.2.2.2.1 (cy 1) res.2.2.2.2.2.2.2.2.2.2.2.2.2.2.2.2.2.2.1 res.2.2.2.2.2.2.2.2.2.2.2.2.2.2.2.2.2.2.2, [(gB, .inl (cy 4, 5, .inr (.inr (.inr (.inr (yad gBd))))))], xg_rows gBd 5 (cy 2) 5 (fun _ _ => 0), [(gK, .inl (cy 4, 5, .inr (.inr (.inr (.inr (yad gKd))))))], xg_rows gKd 5 (cy 2) 5 (fun _ _ => 0), [(gU, .inl (cy 3, 5, .inr (.inr (.inr (.inr (yad gUd))))))], xg_rows gUd 5 (cy 1) 5 (fun _ _ => 0), [(gS, .inl (cy 3, 5, .inr (.inr (.inr (.inr (yad gSd))))))], xg_rows gSd 5 (cy 1) 5 (fun _ _ => 0), [(gR, .inl (cy 3, 0, .inr (.inr (.inr (.inr (yad gRd))))))], xg_rows gRd 0 (cy 1) 0 (fun _ _ => 0), [(gD, .inl (cy 3, 0, .inr (.inr (.inr (.inr (yad gDd))))))], xg_rows gDd 0 (cy 1) 0 (fun _ _ => 0)]) := by
  unfold fX9_init at hR
  refine YM.ofV (cc := cX9_init) (maxL := 1) (ret := none) (by decide +kernel) rfl (Nat.le_of_ble_eq_true rfl) [(0, .ref g)] rfl rfl (fun p e s m args below meth c A H0 Q C hnm ret => ?_)
  refine xr_aload_n (n := 1) (j := 0) C dd_X9_init_0.1 rfl rfl ?_
  refine xr_objInit (n := 4) C u_1193 u_90 u_91 (Nat.le_of_ble_eq_true rfl) (Nat.le_of_ble_eq_true rfl) (Nat.le_of_ble_eq_true rfl) dd_X9_init_0.2.1 rfl ?_
  refine xr_aload_n (n := 5) (j := 0) C dd_X9_init_0.2.2.1 rfl rfl ?_
  refine xr_new (n := 8) (ci := 10) C tyX8 tyX8_ok in_X8 u_1194 u_1195 u_65 rfl [.int 0, .int 0, .int 0, .int 0, .int 0, .null, .null] (by decide) (Nat.le_of_ble_eq_true rfl) (Nat.le_of_ble_eq_true rfl) dd_X9_init_0.2.2.2.1 rfl (fun q_1 => ?_)
  refine xr_eq (bs' := [[(g, .inr (11, [.int 0, .null, .null, .null, .null, .null, .int 0, .int 0, .long 0, .null, .int 0, .int 0, .int 0, .int 0, .null, .int 0, .null]))], [(q_1, .inr (10, [.int 0, .int 0, .int 0, .int 0, .int 0, .null, .null]))]]) rfl ?_
  refine xr_dup (n := 9) C dd_X9_init_0.2.2.2.2.1 rfl rfl ?_
  obtain ⟨x_2, hx_2, hR⟩ := yf_b hR
  refine xr_callINp (n := 12) (As := []) (rest := [.ref q_1, .ref g]) C (kX8_init l D cy (vo := q_1) (vr := 0) (vk := 0) (vc := 0) (vg := 0) (vs := 0) hx_2) mX8_init (host := RX9) (List.mem_of_getElem? (i := 58) rfl) u_1197 rfl 2 [1] [0] rfl (by decide +kernel) rfl rfl rfl rfl (Nat.le_of_ble_eq_true rfl) (Nat.le_of_ble_eq_true rfl) (Nat.le_of_ble_eq_true rfl) (Nat.le_of_ble_eq_true rfl) (Nat.le_of_ble_eq_true rfl) dd_X9_init_0.2.2.2.2.2.1 rfl (fun _ _ hp => hp.2) (fun v_3 hp_5 => ?_)
  obtain ⟨rfl, -⟩ := hp_5
  refine xr_put (n := 15) C 0 rfl rfl 1 (by decide) in_X9 tyX9 tyX9_ok nmX9 u_1238 rfl rfl rfl rfl (Nat.le_of_ble_eq_true rfl) [[(g, .inr (11, [.int 0, .ref q_1, .null, .null, .null, .null, .int 0, .int 0, .long 0, .null, .int 0, .int 0, .int 0, .int 0, .null, .int 0, .null]))], [(q_1, .inr (10, [.int 0, .int 0, .int 0, .int 0, .int 0, .null, .null]))]] rfl rfl dd_X9_init_0.2.2.2.2.2.2.1 ?_
  refine xr_aload_n (n := 16) (j := 0) C dd_X9_init_0.2.2.2.2.2.2.2.1 rfl rfl ?_
  refine xr_iconst (n := 17) (v := 5) C dd_X9_init_0.2.2.2.2.2.2.2.2.1 rfl rfl ?_
  refine xr_iconst (n := 18) (v := 5) C dd_X9_init_0.2.2.2.2.2.2.2.2.2.1 rfl rfl ?_
  refine xr_mnaZ (n := 22) (N' := 5) (K' := 5) (cb := 6) (sb := 30) C u_1229 (by decide) u_1289 (by decide) (by decide) (by decide) (by decide) (by decide) (by decide) (by decide) (by decide) (Nat.le_of_ble_eq_true rfl) (Nat.le_of_ble_eq_true rfl) dX9_init_18 rfl (fun q_6 ad_7 => ?_)
  refine xr_eq (bs' := [[(g, .inr (11, [.int 0, .ref q_1, .null, .null, .null, .null, .int 0, .int 0, .long 0, .null, .int 0, .int 0, .int 0, .int 0, .null, .int 0, .null]))], [(q_1, .inr (10, [.int 0, .int 0, .int 0, .int 0, .int 0, .null, .null]))], [(q_6, .inl (cy 4, 5, .inr (.inr (.inr (.inr (yad ad_7))))))], xg_rows ad_7 5 (cy 2) 5 (fun _ _ => 0)]) rfl ?_
  refine xr_putF (n := 25) C 0 rfl rfl 2 (by decide) in_X9 tyX9 tyX9_ok nmX9 u_1239 rfl rfl hnm rfl rfl rfl (Nat.le_of_ble_eq_true rfl) [[(g, .inr (11, [.int 0, .ref q_1, .ref q_6, .null, .null, .null, .int 0, .int 0, .long 0, .null, .int 0, .int 0, .int 0, .int 0, .null, .int 0, .null]))], [(q_1, .inr (10, [.int 0, .int 0, .int 0, .int 0, .int 0, .null, .null]))], [(q_6, .inl (cy 4, 5, .inr (.inr (.inr (.inr (yad ad_7))))))], xg_rows ad_7 5 (cy 2) 5 (fun _ _ => 0)] rfl rfl dd_X9_init_0.2.2.2.2.2.2.2.2.2.2.1 ?_
  refine xr_aload_n (n := 26) (j := 0) C dd_X9_init_0.2.2.2.2.2.2.2.2.2.2.2.1 rfl rfl ?_
  refine xr_iconst (n := 27) (v := 5) C dd_X9_init_0.2.2.2.2.2.2.2.2.2.2.2.2.1 rfl rfl ?_
  refine xr_iconst (n := 28) (v := 5) C dd_X9_init_0.2.2.2.2.2.2.2.2.2.2.2.2.2.1 rfl rfl ?_
  refine xr_mnaZ (n := 32) (N' := 5) (K' := 5) (cb := 6) (sb := 30) C u_1229 (by decide) u_1289 (by decide) (by decide) (by decide) (by decide) (by decide) (by decide) (by decide) (by decide) (Nat.le_of_ble_eq_true rfl) (Nat.le_of_ble_eq_true rfl) dX9_init_28 rfl (fun q_8 ad_9 => ?_)
  refine xr_eq (bs' := [[(g, .inr (11, [.int 0, .ref q_1, .ref q_6, .null, .null, .null, .int 0, .int 0, .long 0, .null, .int 0, .int 0, .int 0, .int 0, .null, .int 0, .null]))], [(q_1, .inr (10, [.int 0, .int 0, .int 0, .int 0, .int 0, .null, .null]))], [(q_6, .inl (cy 4, 5, .inr (.inr (.inr (.inr (yad ad_7))))))], xg_rows ad_7 5 (cy 2) 5 (fun _ _ => 0), [(q_8, .inl (cy 4, 5, .inr (.inr (.inr (.inr (yad ad_9))))))], xg_rows ad_9 5 (cy 2) 5 (fun _ _ => 0)]) rfl ?_
  refine xr_putF (n := 35) C 0 rfl rfl 3 (by decide) in_X9 tyX9 tyX9_ok nmX9 u_1240 rfl rfl hnm rfl rfl rfl (Nat.le_of_ble_eq_true rfl) [[(g, .inr (11, [.int 0, .ref q_1, .ref q_6, .ref q_8, .null, .null, .int 0, .int 0, .long 0, .null, .int 0, .int 0, .int 0, .int 0, .null, .int 0, .null]))], [(q_1, .inr (10, [.int 0, .int 0, .int 0, .int 0, .int 0, .null, .null]))], [(q_6, .inl (cy 4, 5, .inr (.inr (.inr (.inr (yad ad_7))))))], xg_rows ad_7 5 (cy 2) 5 (fun _ _ => 0), [(q_8, .inl (cy 4, 5, .inr (.inr (.inr (.inr (yad ad_9))))))], xg_rows ad_9 5 (cy 2) 5 (fun _ _ => 0)] rfl rfl dd_X9_init_0.2.2.2.2.2.2.2.2.2.2.2.2.2.2.1 ?_
  refine xr_aload_n (n := 36) (j := 0) C dd_X9_init_0.2.2.2.2.2.2.2.2.2.2.2.2.2.2.2.1 rfl rfl ?_
  refine xr_iconst (n := 37) (v := 5) C dd_X9_init_1.1 rfl rfl ?_
  refine xr_iconst (n := 38) (v := 5) C dd_X9_init_1.2.1 rfl rfl ?_
  refine xr_mnaI (n := 42) (N' := 5) (K' := 5) (cb := 6) (sb := 30) C u_1231 (by decide) u_108 (by decide) (by decide) (by decide) (by decide) (by decide) (by decide) (by decide) (by decide) (Nat.le_of_ble_eq_true rfl) (Nat.le_of_ble_eq_true rfl) dX9_init_38 rfl (fun q_10 ad_11 => ?_)
  refine xr_eq (bs' := [[(g, .inr (11, [.int 0, .ref q_1, .ref q_6, .ref q_8, .null, .null, .int 0, .int 0, .long 0, .null, .int 0, .int 0, .int 0, .int 0, .null, .int 0, .null]))], [(q_1, .inr (10, [.int 0, .int 0, .int 0, .int 0, .int 0, .null, .null]))], [(q_6, .inl (cy 4, 5, .inr (.inr (.inr (.inr (yad ad_7))))))], xg_rows ad_7 5 (cy 2) 5 (fun _ _ => 0), [(q_8, .inl (cy 4, 5, .inr (.inr (.inr (.inr (yad ad_9))))))], xg_rows ad_9 5 (cy 2) 5 (fun _ _ => 0), [(q_10, .inl (cy 3, 5, .inr (.inr (.inr (.inr (yad ad_11))))))], xg_rows ad_11 5 (cy 1) 5 (fun _ _ => 0)]) rfl ?_
  refine xr_putF (n := 45) C 0 rfl rfl 4 (by decide) in_X9 tyX9 tyX9_ok nmX9 u_1241 rfl rfl hnm rfl rfl rfl (Nat.le_of_ble_eq_true rfl) [[(g, .inr (11, [.int 0, .ref q_1, .ref q_6, .ref q_8, .ref q_10, .null, .int 0, .int 0, .long 0, .null, .int 0, .int 0, .int 0, .int 0, .null, .int 0, .null]))], [(q_1, .inr (10, [.int 0, .int 0, .int 0, .int 0, .int 0, .null, .null]))], [(q_6, .inl (cy 4, 5, .inr (.inr (.inr (.inr (yad ad_7))))))], xg_rows ad_7 5 (cy 2) 5 (fun _ _ => 0), [(q_8, .inl (cy 4, 5, .inr (.inr (.inr (.inr (yad ad_9))))))], xg_rows ad_9 5 (cy 2) 5 (fun _ _ => 0), [(q_10, .inl (cy 3, 5, .inr (.inr (.inr (.inr (yad ad_11))))))], xg_rows ad_11 5 (cy 1) 5 (fun _ _ => 0)] rfl rfl dd_X9_init_1.2.2.1 ?_
  refine xr_aload_n (n := 46) (j := 0) C dd_X9_init_1.2.2.2.1 rfl rfl ?_
  refine xr_iconst (n := 47) (v := 5) C dd_X9_init_1.2.2.2.2.1 rfl rfl ?_
  refine xr_iconst (n := 48) (v := 5) C dd_X9_init_1.2.2.2.2.2.1 rfl rfl ?_
  refine xr_mnaI (n := 52) (N' := 5) (K' := 5) (cb := 6) (sb := 30) C u_1231 (by decide) u_108 (by decide) (by decide) (by decide) (by decide) (by decide) (by decide) (by decide) (by decide) (Nat.le_of_ble_eq_true rfl) (Nat.le_of_ble_eq_true rfl) dX9_init_48 rfl (fun q_12 ad_13 => ?_)
  refine xr_eq (bs' := [[(g, .inr (11, [.int 0, .ref q_1, .ref q_6, .ref q_8, .ref q_10, .null, .int 0, .int 0, .long 0, .null, .int 0, .int 0, .int 0, .int 0, .null, .int 0, .null]))], [(q_1, .inr (10, [.int 0, .int 0, .int 0, .int 0, .int 0, .null, .null]))], [(q_6, .inl (cy 4, 5, .inr (.inr (.inr (.inr (yad ad_7))))))], xg_rows ad_7 5 (cy 2) 5 (fun _ _ => 0), [(q_8, .inl (cy 4, 5, .inr (.inr (.inr (.inr (yad ad_9))))))], xg_rows ad_9 5 (cy 2) 5 (fun _ _ => 0), [(q_10, .inl (cy 3, 5, .inr (.inr (.inr (.inr (yad ad_11))))))], xg_rows ad_11 5 (cy 1) 5 (fun _ _ => 0), [(q_12, .inl (cy 3, 5, .inr (.inr (.inr (.inr (yad ad_13))))))], xg_rows ad_13 5 (cy 1) 5 (fun _ _ => 0)]) rfl ?_
  refine xr_putF (n := 55) C 0 rfl rfl 5 (by decide) in_X9 tyX9 tyX9_ok nmX9 u_1242 rfl rfl hnm rfl rfl rfl (Nat.le_of_ble_eq_true rfl) [[(g, .inr (11, [.int 0, .ref q_1, .ref q_6, .ref q_8, .ref q_10, .ref q_12, .int 0, .int 0, .long 0, .null, .int 0, .int 0, .int 0, .int 0, .null, .int 0, .null]))], [(q_1, .inr (10, [.int 0, .int 0, .int 0, .int 0, .int 0, .null, .null]))], [(q_6, .inl (cy 4, 5, .inr (.inr (.inr (.inr (yad ad_7))))))], xg_rows ad_7 5 (cy 2) 5 (fun _ _ => 0), [(q_8, .inl (cy 4, 5, .inr (.inr (.inr (.inr (yad ad_9))))))], xg_rows ad_9 5 (cy 2) 5 (fun _ _ => 0), [(q_10, .inl (cy 3, 5, .inr (.inr (.inr (.inr (yad ad_11))))))], xg_rows ad_11 5 (cy 1) 5 (fun _ _ => 0), [(q_12, .inl (cy 3, 5, .inr (.inr (.inr (.inr (yad ad_13))))))], xg_rows ad_13 5 (cy 1) 5 (fun _ _ => 0)] rfl rfl dd_X9_init_1.2.2.2.2.2.2.1 ?_
  refine xr_aload_n (n := 56) (j := 0) C dd_X9_init_1.2.2.2.2.2.2.2.1 rfl rfl ?_
  refine xr_iconst (n := 57) (v := 0) C dd_X9_init_1.2.2.2.2.2.2.2.2.1 rfl rfl ?_
  refine xr_iconst (n := 58) (v := 0) C dd_X9_init_1.2.2.2.2.2.2.2.2.2.1 rfl rfl ?_
  refine xr_mnaI (n := 62) (N' := 0) (K' := 0) (cb := 1) (sb := 0) C u_1231 (by decide) u_108 (by decide) (by decide) (by decide) (by decide) (by decide) (by decide) (by decide) (by decide) (Nat.le_of_ble_eq_true rfl) (Nat.le_of_ble_eq_true rfl) dX9_init_58 rfl (fun q_14 ad_15 => ?_)
  refine xr_eq (bs' := [[(g, .inr (11, [.int 0, .ref q_1, .ref q_6, .ref q_8, .ref q_10, .ref q_12, .int 0, .int 0, .long 0, .null, .int 0, .int 0, .int 0, .int 0, .null, .int 0, .null]))], [(q_1, .inr (10, [.int 0, .int 0, .int 0, .int 0, .int 0, .null, .null]))], [(q_6, .inl (cy 4, 5, .inr (.inr (.inr (.inr (yad ad_7))))))], xg_rows ad_7 5 (cy 2) 5 (fun _ _ => 0), [(q_8, .inl (cy 4, 5, .inr (.inr (.inr (.inr (yad ad_9))))))], xg_rows ad_9 5 (cy 2) 5 (fun _ _ => 0), [(q_10, .inl (cy 3, 5, .inr (.inr (.inr (.inr (yad ad_11))))))], xg_rows ad_11 5 (cy 1) 5 (fun _ _ => 0), [(q_12, .inl (cy 3, 5, .inr (.inr (.inr (.inr (yad ad_13))))))], xg_rows ad_13 5 (cy 1) 5 (fun _ _ => 0), [(q_14, .inl (cy 3, 0, .inr (.inr (.inr (.inr (yad ad_15))))))], xg_rows ad_15 0 (cy 1) 0 (fun _ _ => 0)]) rfl ?_
  refine xr_put (n := 65) C 0 rfl rfl 14 (by decide) in_X9 tyX9 tyX9_ok nmX9 u_1251 rfl rfl rfl rfl (Nat.le_of_ble_eq_true rfl) [[(g, .inr (11, [.int 0, .ref q_1, .ref q_6, .ref q_8, .ref q_10, .ref q_12, .int 0, .int 0, .long 0, .null, .int 0, .int 0, .int 0, .int 0, .ref q_14, .int 0, .null]))], [(q_1, .inr (10, [.int 0, .int 0, .int 0, .int 0, .int 0, .null, .null]))], [(q_6, .inl (cy 4, 5, .inr (.inr (.inr (.inr (yad ad_7))))))], xg_rows ad_7 5 (cy 2) 5 (fun _ _ => 0), [(q_8, .inl (cy 4, 5, .inr (.inr (.inr (.inr (yad ad_9))))))], xg_rows ad_9 5 (cy 2) 5 (fun _ _ => 0), [(q_10, .inl (cy 3, 5, .inr (.inr (.inr (.inr (yad ad_11))))))], xg_rows ad_11 5 (cy 1) 5 (fun _ _ => 0), [(q_12, .inl (cy 3, 5, .inr (.inr (.inr (.inr (yad ad_13))))))], xg_rows ad_13 5 (cy 1) 5 (fun _ _ => 0), [(q_14, .inl (cy 3, 0, .inr (.inr (.inr (.inr (yad ad_15))))))], xg_rows ad_15 0 (cy 1) 0 (fun _ _ => 0)] rfl rfl dd_X9_init_1.2.2.2.2.2.2.2.2.2.2.1 ?_
  refine xr_aload_n (n := 66) (j := 0) C dd_X9_init_1.2.2.2.2.2.2.2.2.2.2.2.1 rfl rfl ?_
  refine xr_iconst (n := 67) (v := 0) C dd_X9_init_1.2.2.2.2.2.2.2.2.2.2.2.2.1 rfl rfl ?_
  refine xr_iconst (n := 68) (v := 0) C dd_X9_init_1.2.2.2.2.2.2.2.2.2.2.2.2.2.1 rfl rfl ?_
  refine xr_mnaI (n := 72) (N' := 0) (K' := 0) (cb := 1) (sb := 0) C u_1231 (by decide) u_108 (by decide) (by decide) (by decide) (by decide) (by decide) (by decide) (by decide) (by decide) (Nat.le_of_ble_eq_true rfl) (Nat.le_of_ble_eq_true rfl) dX9_init_68 rfl (fun q_16 ad_17 => ?_)
  refine xr_eq (bs' := [[(g, .inr (11, [.int 0, .ref q_1, .ref q_6, .ref q_8, .ref q_10, .ref q_12, .int 0, .int 0, .long 0, .null, .int 0, .int 0, .int 0, .int 0, .ref q_14, .int 0, .null]))], [(q_1, .inr (10, [.int 0, .int 0, .int 0, .int 0, .int 0, .null, .null]))], [(q_6, .inl (cy 4, 5, .inr (.inr (.inr (.inr (yad ad_7))))))], xg_rows ad_7 5 (cy 2) 5 (fun _ _ => 0), [(q_8, .inl (cy 4, 5, .inr (.inr (.inr (.inr (yad ad_9))))))], xg_rows ad_9 5 (cy 2) 5 (fun _ _ => 0), [(q_10, .inl (cy 3, 5, .inr (.inr (.inr (.inr (yad ad_11))))))], xg_rows ad_11 5 (cy 1) 5 (fun _ _ => 0), [(q_12, .inl (cy 3, 5, .inr (.inr (.inr (.inr (yad ad_13))))))], xg_rows ad_13 5 (cy 1) 5 (fun _ _ => 0), [(q_14, .inl (cy 3, 0, .inr (.inr (.inr (.inr (yad ad_15))))))], xg_rows ad_15 0 (cy 1) 0 (fun _ _ => 0), [(q_16, .inl (cy 3, 0, .inr (.inr (.inr (.inr (yad ad_17))))))], xg_rows ad_17 0 (cy 1) 0 (fun _ _ => 0)]) rfl ?_
  refine xr_put (n := 75) C 0 rfl rfl 16 (by decide) in_X9 tyX9 tyX9_ok nmX9 u_1253 rfl rfl rfl rfl (Nat.le_of_ble_eq_true rfl) [[(g, .inr (11, [.int 0, .ref q_1, .ref q_6, .ref q_8, .ref q_10, .ref q_12, .int 0, .int 0, .long 0, .null, .int 0, .int 0, .int 0, .int 0, .ref q_14, .int 0, .ref q_16]))], [(q_1, .inr (10, [.int 0, .int 0, .int 0, .int 0, .int 0, .null, .null]))], [(q_6, .inl (cy 4, 5, .inr (.inr (.inr (.inr (yad ad_7))))))], xg_rows ad_7 5 (cy 2) 5 (fun _ _ => 0), [(q_8, .inl (cy 4, 5, .inr (.inr (.inr (.inr (yad ad_9))))))], xg_rows ad_9 5 (cy 2) 5 (fun _ _ => 0), [(q_10, .inl (cy 3, 5, .inr (.inr (.inr (.inr (yad ad_11))))))], xg_rows ad_11 5 (cy 1) 5 (fun _ _ => 0), [(q_12, .inl (cy 3, 5, .inr (.inr (.inr (.inr (yad ad_13))))))], xg_rows ad_13 5 (cy 1) 5 (fun _ _ => 0), [(q_14, .inl (cy 3, 0, .inr (.inr (.inr (.inr (yad ad_15))))))], xg_rows ad_15 0 (cy 1) 0 (fun _ _ => 0), [(q_16, .inl (cy 3, 0, .inr (.inr (.inr (.inr (yad ad_17))))))], xg_rows ad_17 0 (cy 1) 0 (fun _ _ => 0)] rfl rfl dd_X9_init_1.2.2.2.2.2.2.2.2.2.2.2.2.2.2.1 ?_
  refine xr_aload_n (n := 76) (j := 0) C dd_X9_init_1.2.2.2.2.2.2.2.2.2.2.2.2.2.2.2.1 rfl rfl ?_
  refine xr_iconst (n := 77) (v := 2) C dd_X9_init_2.1 rfl rfl ?_
  refine xr_iconst (n := 78) (v := 2) C dd_X9_init_2.2.1 rfl rfl ?_
  refine xr_iconst (n := 79) (v := 2) C dd_X9_init_2.2.2.1 rfl rfl ?_
  obtain ⟨x_18, hx_18, hR⟩ := yf_b hR
  refine xr_callV (n := 82) (As := [.int 2, .int 2, .int 2]) (rest := []) C (kX9_lay_0 l D cy (g := g) (gth := 0) (gw := q_1) (gB := q_6) (gK := q_8) (gU := q_10) (gS := q_12) (gbe := 0) (gwo := 0) (gta := 0) (glr := 0) (glc := 0) (gti := 0) (ggo := 0) (gR := q_14) (gch := 0) (gD := q_16) (gwr := 0) (gwk := 0) (gwc := 0) (gwg := 0) (gws := 0) (i1 := 2) (i2 := 2) (i3 := 2) hx_18) mX9_lay u_1233 u_1235 u_28 0 rfl rfl 14 [0, 1] [2, 3, 4, 5, 6, 7, 8, 9, 10, 11, 12, 13] rfl (by decide +kernel) rfl rfl rfl rfl (Nat.le_of_ble_eq_true rfl) (Nat.le_of_ble_eq_true rfl) (Nat.le_of_ble_eq_true rfl) (Nat.le_of_ble_eq_true rfl) (Nat.le_of_ble_eq_true rfl) dd_X9_init_2.2.2.2.1 rfl (fun v_19 u_20 hp_21 => ?_)
  obtain ⟨q_22, q_23, q_24, q_25, rfl, rfl⟩ := hp_21
  refine xr_perm C 18 [0, 1, 6, 7, 8, 9, 10, 11, 12, 13, 14, 15, 16, 17, 2, 3, 4, 5] [] [[(g, .inr (11, [.int 0, .ref q_1, .ref q_6, .ref q_8, .ref q_10, .ref q_12, .int 0, .int 0, .long 0, .null, .int 0, .int 0, .int 0, .int 0, .ref q_14, .int 0, .ref q_16]))], [(q_1, .inr (10, [.int x_18.1, .int x_18.2.1, .int x_18.2.2.1, .int 0, .int 0, .ref q_22, .ref q_23]))], [(q_6, .inl (cy 4, 5, .inr (.inr (.inr (.inr (yad ad_7))))))], xg_rows ad_7 5 (cy 2) 5 (fun _ _ => 0), [(q_8, .inl (cy 4, 5, .inr (.inr (.inr (.inr (yad ad_9))))))], xg_rows ad_9 5 (cy 2) 5 (fun _ _ => 0), [(q_10, .inl (cy 3, 5, .inr (.inr (.inr (.inr (yad ad_11))))))], xg_rows ad_11 5 (cy 1) 5 (fun _ _ => 0), [(q_12, .inl (cy 3, 5, .inr (.inr (.inr (.inr (yad ad_13))))))], xg_rows ad_13 5 (cy 1) 5 (fun _ _ => 0), [(q_14, .inl (cy 3, 0, .inr (.inr (.inr (.inr (yad ad_15))))))], xg_rows ad_15 0 (cy 1) 0 (fun _ _ => 0), [(q_16, .inl (cy 3, 0, .inr (.inr (.inr (.inr (yad ad_17))))))], xg_rows ad_17 0 (cy 1) 0 (fun _ _ => 0), [(q_22, .inl (cy 3, x_18.2.2.2.1, .inr (.inr (.inr (.inr (yad q_24))))))], xg_rows q_24 x_18.2.2.2.1 (cy 1) x_18.2.2.2.2.1 x_18.2.2.2.2.2.1, [(q_23, .inl (cy 3, x_18.2.2.2.2.2.2.1, .inr (.inr (.inr (.inr (yad q_25))))))], xg_rows q_25 x_18.2.2.2.2.2.2.1 (cy 1) x_18.2.2.2.2.2.2.2.1 x_18.2.2.2.2.2.2.2.2] rfl (by decide +kernel) rfl ?_
  obtain rfl := Option.some.inj hR
  refine xr_perm C 18 [0, 1, 14, 15, 16, 17, 2, 3, 4, 5, 6, 7, 8, 9, 10, 11, 12, 13] [] [[(g, .inr (11, [.int 0, .ref q_1, .ref q_6, .ref q_8, .ref q_10, .ref q_12, .int 0, .int 0, .long 0, .null, .int 0, .int 0, .int 0, .int 0, .ref q_14, .int 0, .ref q_16]))], [(q_1, .inr (10, [.int x_18.1, .int x_18.2.1, .int x_18.2.2.1, .int 0, .int 0, .ref q_22, .ref q_23]))], [(q_22, .inl (cy 3, x_18.2.2.2.1, .inr (.inr (.inr (.inr (yad q_24))))))], xg_rows q_24 x_18.2.2.2.1 (cy 1) x_18.2.2.2.2.1 x_18.2.2.2.2.2.1, [(q_23, .inl (cy 3, x_18.2.2.2.2.2.2.1, .inr (.inr (.inr (.inr (yad q_25))))))], xg_rows q_25 x_18.2.2.2.2.2.2.1 (cy 1) x_18.2.2.2.2.2.2.2.1 x_18.2.2.2.2.2.2.2.2, [(q_6, .inl (cy 4, 5, .inr (.inr (.inr (.inr (yad ad_7))))))], xg_rows ad_7 5 (cy 2) 5 (fun _ _ => 0), [(q_8, .inl (cy 4, 5, .inr (.inr (.inr (.inr (yad ad_9))))))], xg_rows ad_9 5 (cy 2) 5 (fun _ _ => 0), [(q_10, .inl (cy 3, 5, .inr (.inr (.inr (.inr (yad ad_11))))))], xg_rows ad_11 5 (cy 1) 5 (fun _ _ => 0), [(q_12, .inl (cy 3, 5, .inr (.inr (.inr (.inr (yad ad_13))))))], xg_rows ad_13 5 (cy 1) 5 (fun _ _ => 0), [(q_14, .inl (cy 3, 0, .inr (.inr (.inr (.inr (yad ad_15))))))], xg_rows ad_15 0 (cy 1) 0 (fun _ _ => 0), [(q_16, .inl (cy 3, 0, .inr (.inr (.inr (.inr (yad ad_17))))))], xg_rows ad_17 0 (cy 1) 0 (fun _ _ => 0)] rfl (by decide +kernel) rfl ?_
  exact ret ⟨q_1, q_6, q_8, q_10, q_12, q_14, q_16, q_22, q_23, q_24, q_25, ad_7, ad_9, ad_11, ad_13, ad_15, ad_17, rfl, rfl⟩ (Nat.le_of_ble_eq_true rfl) (Nat.le_of_ble_eq_true rfl) dd_X9_init_2.2.2.2.2.1
theorem dd_X7_init_0 : dk_R cX7_init [(0, .aload_n 0, 1), (1, .invokespecial 1, 3), (4, .return_, 1)] := dk_use _ _ (by decide +kernel)
def fX7_init  : Option (Unit) := some ()
abbrev hX7_init : Cond := .code yX7_init cX7_init 1 none
theorem mX7_init : yM yX7_init hX7_init 0 := ⟨u_554, u_66, by decide +kernel, by decide +kernel, by decide +kernel⟩
set_option maxHeartbeats 4000000 in
set_option maxRecDepth 100000 in
theorem kX7_init (l : Launch) (D : va_G) (cy : Nat → ClassId) (vo : Nat) {res : Unit} (hR : fX7_init  = some res) : YM l D cy yX7_init hX7_init 1 0 0 [.ref vo] [[(vo, .inr (9, [.long 0, .null]))]] (fun v u => v = none ∧ u = [[(vo, .inr (9, [.long 0, .null]))]]) := by
  unfold fX7_init at hR
  refine YM.ofV (cc := cX7_init) (maxL := 1) (ret := none) (by decide +kernel) rfl (Nat.le_of_ble_eq_true rfl) [(0, .ref vo)] rfl rfl (fun p e s m args below meth c A H0 Q C hnm ret => ?_)
  refine xr_aload_n (n := 1) (j := 0) C dd_X7_init_0.1 rfl rfl ?_
  refine xr_objInit (n := 4) C u_555 u_90 u_91 (Nat.le_of_ble_eq_true rfl) (Nat.le_of_ble_eq_true rfl) (Nat.le_of_ble_eq_true rfl) dd_X7_init_0.2.1 rfl ?_
  obtain rfl := Option.some.inj hR
  exact ret ⟨rfl, rfl⟩ (Nat.le_of_ble_eq_true rfl) (Nat.le_of_ble_eq_true rfl) dd_X7_init_0.2.2.1
theorem dd_X9_row_0 : dk_R cX9_row [(0, .aload_n 0, 1), (1, .iload_n 1, 1), (2, .iconst 0, 1), (3, .iconst 4, 1), (4, .invokestatic 75, 3), (7, .ifCond .ne 7, 3), (10, .iconst 1, 1), (11, .goto 4, 3), (14, .iconst 0, 1), (15, .iconst 1, 1), (16, .invokevirtual 79, 3), (19, .ifCond .eq 7, 3), (22, .ldc_w 256, 3), (25, .areturn, 1), (26, .new 258, 3), (29, .dup, 1)] := dk_use _ _ (by decide +kernel)
theorem dd_X9_row_1 : dk_R cX9_row [(30, .invokespecial 260, 3), (33, .astore_n 2, 1), (34, .iconst 0, 1), (35, .istore_n 3, 1), (36, .iload_n 3, 1), (37, .iconst 5, 1), (38, .if_icmp .ge 94, 3), (41, .aload_n 0, 1), (42, .getfield 137, 3), (45, .ifnull 29, 3), (48, .aload_n 0, 1), (49, .getfield 146, 3), (52, .iload_n 1, 1), (53, .invokestatic 93, 3), (56, .ifCond .eq 18, 3), (59, .aload_n 0, 1)] := dk_use _ _ (by decide +kernel)
theorem dd_X9_row_2 : dk_R cX9_row [(60, .getfield 149, 3), (63, .iload_n 3, 1), (64, .invokestatic 93, 3), (67, .ifCond .eq 7, 3), (70, .iconst 1, 1), (71, .goto 4, 3), (74, .iconst 0, 1), (75, .istore 4, 2), (77, .aload_n 2, 1), (78, .aload_n 0, 1), (79, .getfield 27, 3), (82, .iload_n 1, 1), (83, .aaload, 1), (84, .iload_n 3, 1), (85, .baload, 1), (86, .ifCond .eq 8, 3)] := dk_use _ _ (by decide +kernel)
theorem dd_X9_row_3 : dk_R cX9_row [(89, .bipush 120, 2), (91, .goto 31, 3), (94, .aload_n 0, 1), (95, .getfield 24, 3), (98, .iload_n 1, 1), (99, .aaload, 1), (100, .iload_n 3, 1), (101, .baload, 1), (102, .ifCond .eq 8, 3), (105, .bipush 63, 2), (107, .goto 15, 3), (110, .iload 4, 2), (112, .ifCond .eq 8, 3), (115, .bipush 111, 2), (117, .goto 5, 3), (120, .bipush 46, 2)] := dk_use _ _ (by decide +kernel)
theorem dd_X9_row_4 : dk_R cX9_row [(122, .invokevirtual 261, 3), (125, .pop, 1), (126, .iinc 3 1, 3), (129, .goto (-93), 3), (132, .aload_n 2, 1), (133, .invokevirtual 265, 3), (136, .areturn, 1)] := dk_use _ _ (by decide +kernel)
def fX9_row_i (gBG : Nat → Nat → Int32) (gKG : Nat → Nat → Int32) (i1 : Int32) : Option ((Int32 × (Nat → Int32) × Nat) ⊕ Int32) := ((fX9_isIn i1 0 4).bind fun x_1 => ((((if x_1 = 0 then some 1 else some 0) : Option (Int32))).bind fun r_6 => ((fX9_start_i r_6 1).bind fun x_7 => (if x_7.1 = 0 then ((fJ4_init_da8c8).bind fun x_13 => ((wl (S := Int32 × Int32 × (Nat → Int32)) (B := Int32 × Int32 × (Nat → Int32)) (fun s_18 => (if 5 ≤ s_18.1 then some (.inr (s_18.1, s_18.2.1, s_18.2.2)) else (if ¬ (i1 < 0 ∨ 5 ≤ i1.toNatClampNeg) then (if ¬ (s_18.1 < 0 ∨ 5 ≤ s_18.1.toNatClampNeg) then ((((if (gKG i1.toNatClampNeg s_18.1.toNatClampNeg) = 0 then (if ¬ (i1 < 0 ∨ 5 ≤ i1.toNatClampNeg) then (if ¬ (s_18.1 < 0 ∨ 5 ≤ s_18.1.toNatClampNeg) then (if (gBG i1.toNatClampNeg s_18.1.toNatClampNeg) = 0 then some 46 else some 63) else none) else none) else some 120) : Option (Int32))).bind fun r_34 => ((fJ4_append_cf468 s_18.2.1 s_18.2.2 16 r_34).bind fun x_35 => some (.inl (s_18.1 + 1, x_35.1, x_35.2)))) else none) else none))) yFuel (0, 0, fun _ => 0)).bind fun b_18 => ((fJ4_toString_0e30d b_18.2.1 b_18.2.2 16).bind fun x_19 => some (.inl (x_7.2, x_19.1, x_19.2))))) else some (.inr x_7.2)))))
abbrev hX9_row : Cond := .code yX9_row cX9_row 5 (some (.object "java/lang/String"))
theorem mX9_row : yM yX9_row hX9_row 1 := ⟨u_1546, u_64, by decide +kernel, by decide +kernel, by decide +kernel⟩
set_option maxHeartbeats 4000000 in
set_option maxRecDepth 100000 in
theorem kX9_row_i (l : Launch) (D : va_G) (cy : Nat → ClassId) (g : Nat) (gth : Int32) (gw : Nat) (gB : Nat) (gK : Nat) (gU : Nat) (gS : Nat) (gbe : Int32) (gwo : Int32) (gta : Int64) (glr : Int32) (glc : Int32) (gti : Int32) (ggo : Int32) (gR : Nat) (gch : Int32) (gD : Nat) (gBd : Nat → Nat) (gBG : Nat → Nat → Int32) (gKd : Nat → Nat) (gKG : Nat → Nat → Int32) (i1 : Int32) {res : (Int32 × (Nat → Int32) × Nat) ⊕ Int32} (hR : fX9_row_i gBG gKG i1 = some res) : YM l D cy yX9_row hX9_row 7 4 40 [.ref g, .int i1] [[(g, .inr (11, [.int gth, .ref gw, .ref gB, .ref gK, .ref gU, .ref gS, .int gbe, .int gwo, .long gta, .null, .int glr, .int glc, .int gti, .int ggo, .ref gR, .int gch, .ref gD]))], [(gB, .inl (cy 4, 5, .inr (.inr (.inr (.inr (yad gBd))))))], xg_rows gBd 5 (cy 2) 5 gBG, [(gK, .inl (cy 4, 5, .inr (.inr (.inr (.inr (yad gKd))))))], xg_rows gKd 5 (cy 2) 5 gKG] (fun v u => (∃ r, res = .inl r ∧ ∃ rs : Nat, ∃ rsv : Nat, v = some (.ref rs) ∧ u = [[(g, .inr (11, [.int r.1, .ref gw, .ref gB, .ref gK, .ref gU, .ref gS, .int gbe, .int gwo, .long gta, .null, .int glr, .int glc, .int gti, .int ggo, .ref gR, .int gch, .ref gD]))], [(gB, .inl (cy 4, 5, .inr (.inr (.inr (.inr (yad gBd))))))], xg_rows gBd 5 (cy 2) 5 gBG, [(gK, .inl (cy 4, 5, .inr (.inr (.inr (.inr (yad gKd))))))], xg_rows gKd 5 (cy 2) 5 gKG, [(rs, .inr (0, [.ref rsv, .int 0, .int 0, .int 0]))], [(rsv, .inl (cy 0, r.2.2, .inl r.2.1))]]) ∨ (∃ r, res = .inr r ∧ ∃ rs : Nat, v = some (.ref rs) ∧ u = [[(g, .inr (11, [.int r, .ref gw, .ref gB, .ref gK, .ref gU, .ref gS, .int gbe, .int gwo, .long gta, .null, .int glr, .int glc, .int gti, .int ggo, .ref gR, .int gch, .ref gD]))], [(gB, .inl (cy 4, 5, .inr (.inr (.inr (.inr (yad gBd))))))], xg_rows gBd 5 (cy 2) 5 gBG, [(gK, .inl (cy 4, 5, .inr (.inr (.inr (.inr (yad gKd))))))], xg_rows gKd 5 (cy 2) 5 gKG])) := by
  unfold fX9_row_i at hR
  refine YM.ofA (cc := cX9_row) (maxL := 5) (ret := (some (.object "java/lang/String"))) (by decide +kernel) rfl (Nat.le_of_ble_eq_true rfl) [(0, .ref g), (1, .int i1)] rfl (.object "java/lang/String") rfl (Or.inl ⟨_, rfl⟩) (fun p e s m args below meth c A H0 Q C hnm ret => ?_)
  refine xr_aload_n (n := 1) (j := 0) C dd_X9_row_0.1 rfl rfl ?_
  refine xr_iload_n (n := 2) (j := 1) C dd_X9_row_0.2.1 rfl rfl ?_
  refine xr_iconst (n := 3) (v := 0) C dd_X9_row_0.2.2.1 rfl rfl ?_
  refine xr_iconst (n := 4) (v := 4) C dd_X9_row_0.2.2.2.1 rfl rfl ?_
  obtain ⟨x_1, hx_1, hR⟩ := yf_b hR
  refine xr_callSp (n := 7) (As := [.int i1, .int 0, .int 4]) (rest := [.ref g]) C (kX9_isIn l D cy (i1 := i1) (i2 := 0) (i3 := 4) hx_1) mX9_isIn u_1294 u_1295 5 [] [0, 1, 2, 3, 4] rfl (by decide +kernel) rfl rfl rfl rfl (Nat.le_of_ble_eq_true rfl) (Nat.le_of_ble_eq_true rfl) (Nat.le_of_ble_eq_true rfl) (Nat.le_of_ble_eq_true rfl) (Nat.le_of_ble_eq_true rfl) dd_X9_row_0.2.2.2.2.1 rfl (fun _ _ hp => hp.2) (fun v_2 hp_4 => ?_)
  obtain ⟨rfl, -⟩ := hp_4
  refine xr_st (st' := [.int x_1, .ref g]) rfl ?_
  obtain ⟨r_6, hE_6, hR⟩ := yf_b hR
  have J_6 : X p l e (yR 7 4 40) s m args below meth c D A H0 5 Q [[(g, .inr (11, [.int gth, .ref gw, .ref gB, .ref gK, .ref gU, .ref gS, .int gbe, .int gwo, .long gta, .null, .int glr, .int glc, .int gti, .int ggo, .ref gR, .int gch, .ref gD]))], [(gB, .inl (cy 4, 5, .inr (.inr (.inr (.inr (yad gBd))))))], xg_rows gBd 5 (cy 2) 5 gBG, [(gK, .inl (cy 4, 5, .inr (.inr (.inr (.inr (yad gKd))))))], xg_rows gKd 5 (cy 2) 5 gKG] 0 0 [(0, .ref g), (1, .int i1)] 15 [.int r_6, .ref g] := by
    refine xr_iconst (n := 16) (v := 1) C dd_X9_row_0.2.2.2.2.2.2.2.2.2.1 rfl rfl ?_
    obtain ⟨x_7, hx_7, hR⟩ := yf_b hR
    refine xr_callV (n := 19) (As := [.int r_6, .int 1]) (rest := []) C (kX9_start_i l D cy (g := g) (gth := gth) (gw := gw) (gB := gB) (gK := gK) (gU := gU) (gS := gS) (gbe := gbe) (gwo := gwo) (gta := gta) (glr := glr) (glc := glc) (gti := gti) (ggo := ggo) (gR := gR) (gch := gch) (gD := gD) (i1 := r_6) (i2 := 1) hx_7) mX9_start u_1297 u_1299 u_29 0 rfl rfl 5 [0] [1, 2, 3, 4] rfl (by decide +kernel) rfl rfl rfl rfl (Nat.le_of_ble_eq_true rfl) (Nat.le_of_ble_eq_true rfl) (Nat.le_of_ble_eq_true rfl) (Nat.le_of_ble_eq_true rfl) (Nat.le_of_ble_eq_true rfl) dd_X9_row_0.2.2.2.2.2.2.2.2.2.2.1 rfl (fun v_8 u_9 hp_10 => ?_)
    obtain ⟨rfl, rfl⟩ := hp_10
    refine xr_perm C 5 [0, 1, 2, 3, 4] [] [[(g, .inr (11, [.int x_7.2, .ref gw, .ref gB, .ref gK, .ref gU, .ref gS, .int gbe, .int gwo, .long gta, .null, .int glr, .int glc, .int gti, .int ggo, .ref gR, .int gch, .ref gD]))], [(gB, .inl (cy 4, 5, .inr (.inr (.inr (.inr (yad gBd))))))], xg_rows gBd 5 (cy 2) 5 gBG, [(gK, .inl (cy 4, 5, .inr (.inr (.inr (.inr (yad gKd))))))], xg_rows gKd 5 (cy 2) 5 gKG] rfl (by decide +kernel) rfl ?_
    refine xr_st (st' := [.int x_7.1]) rfl ?_
    refine xr_if_eq (tgt := 26) (n := 22) C dd_X9_row_0.2.2.2.2.2.2.2.2.2.2.2.1 rfl rfl (fun c_11 => ?_) (fun c_11 => ?_)
    · replace hR := yf_t c_11 hR
      refine xr_new (n := 29) (ci := 1) C tyJ4 tyJ4_ok in_J4 u_1548 u_908 u_76 rfl [.null, .int 0, .int 0, .int 0] (by decide) (Nat.le_of_ble_eq_true rfl) (Nat.le_of_ble_eq_true rfl) dd_X9_row_0.2.2.2.2.2.2.2.2.2.2.2.2.2.2.1 rfl (fun q_12 => ?_)
      refine xr_eq (bs' := [[(g, .inr (11, [.int x_7.2, .ref gw, .ref gB, .ref gK, .ref gU, .ref gS, .int gbe, .int gwo, .long gta, .null, .int glr, .int glc, .int gti, .int ggo, .ref gR, .int gch, .ref gD]))], [(gB, .inl (cy 4, 5, .inr (.inr (.inr (.inr (yad gBd))))))], xg_rows gBd 5 (cy 2) 5 gBG, [(gK, .inl (cy 4, 5, .inr (.inr (.inr (.inr (yad gKd))))))], xg_rows gKd 5 (cy 2) 5 gKG, [(q_12, .inr (1, [.null, .int 0, .int 0, .int 0]))]]) rfl ?_
      refine xr_dup (n := 30) C dd_X9_row_0.2.2.2.2.2.2.2.2.2.2.2.2.2.2.2.1 rfl rfl ?_
      obtain ⟨x_13, hx_13, hR⟩ := yf_b hR
      refine xr_callI (n := 33) (As := []) (rest := [.ref q_12]) C (kJ4_init_da8c8 l D cy (h := q_12) hx_13) mJ4_init_da8c8 u_1549 u_910 rfl 6 [5] [0, 1, 2, 3, 4] rfl (by decide +kernel) rfl rfl rfl rfl (Nat.le_of_ble_eq_true rfl) (Nat.le_of_ble_eq_true rfl) (Nat.le_of_ble_eq_true rfl) (Nat.le_of_ble_eq_true rfl) (Nat.le_of_ble_eq_true rfl) dd_X9_row_1.1 rfl (fun v_14 u_15 hp_16 => ?_)
      obtain ⟨q_17, rfl, rfl⟩ := hp_16
      refine xr_perm C 7 [2, 3, 4, 5, 6, 0, 1] [] [[(g, .inr (11, [.int x_7.2, .ref gw, .ref gB, .ref gK, .ref gU, .ref gS, .int gbe, .int gwo, .long gta, .null, .int glr, .int glc, .int gti, .int ggo, .ref gR, .int gch, .ref gD]))], [(gB, .inl (cy 4, 5, .inr (.inr (.inr (.inr (yad gBd))))))], xg_rows gBd 5 (cy 2) 5 gBG, [(gK, .inl (cy 4, 5, .inr (.inr (.inr (.inr (yad gKd))))))], xg_rows gKd 5 (cy 2) 5 gKG, [(q_12, .inr (1, [.ref q_17, .int 0, .int 0, .int 0]))], [(q_17, .inl (cy 0, 16, .inl (fun _ => 0)))]] rfl (by decide +kernel) rfl ?_
      refine xr_astore_n (n := 34) C [(2, .ref q_12), (0, .ref g), (1, .int i1)] dd_X9_row_1.2.1 (by decide) rfl rfl ?_
      refine xr_iconst (n := 35) (v := 0) C dd_X9_row_1.2.2.1 rfl rfl ?_
      refine xr_istore_n (n := 36) C [(3, .int 0), (2, .ref q_12), (0, .ref g), (1, .int i1)] dd_X9_row_1.2.2.2.1 (by decide) rfl rfl ?_
      refine xr_lv (lv' := [(0, .ref g), (1, .int i1), (2, .ref q_12), (3, .int 0)]) [2, 3, 1, 0] rfl ?_
      obtain ⟨b_18, hb_18, hR⟩ := yf_b hR
      have K_18 : X p l e (yR 7 4 40) s m args below meth c D A H0 5 Q [[(g, .inr (11, [.int x_7.2, .ref gw, .ref gB, .ref gK, .ref gU, .ref gS, .int gbe, .int gwo, .long gta, .null, .int glr, .int glc, .int gti, .int ggo, .ref gR, .int gch, .ref gD]))], [(gB, .inl (cy 4, 5, .inr (.inr (.inr (.inr (yad gBd))))))], xg_rows gBd 5 (cy 2) 5 gBG, [(gK, .inl (cy 4, 5, .inr (.inr (.inr (.inr (yad gKd))))))], xg_rows gKd 5 (cy 2) 5 gKG, [(q_12, .inr (1, [.ref q_17, .int 0, .int 0, .int b_18.2.1]))], [(q_17, .inl (cy 0, 16, .inl b_18.2.2))]] (0 + 1 + 1) (0 + 4 + 16) [(2, .ref q_12)] 132 [] := by
        refine xr_aload_n (n := 133) (j := 0) C dd_X9_row_4.2.2.2.2.1 rfl rfl ?_
        obtain ⟨x_19, hx_19, hR⟩ := yf_b hR
        refine xr_callV (n := 136) (As := []) (rest := []) C (kJ4_toString_0e30d l D cy (h := q_12) (hv := q_17) (hc := b_18.2.1) (hf := b_18.2.2) (hn := 16) hx_19) mJ4_toString_0e30d u_1551 u_1035 u_1036 5 rfl rfl 7 [5, 6] [0, 1, 2, 3, 4] rfl (by decide +kernel) rfl rfl rfl rfl (Nat.le_of_ble_eq_true rfl) (Nat.le_of_ble_eq_true rfl) (Nat.le_of_ble_eq_true rfl) (Nat.le_of_ble_eq_true rfl) (Nat.le_of_ble_eq_true rfl) dd_X9_row_4.2.2.2.2.2.1 rfl (fun v_20 u_21 hp_22 => ?_)
        obtain ⟨q_23, q_24, rfl, rfl⟩ := hp_22
        refine xr_perm C 9 [4, 5, 6, 7, 8, 0, 1, 2, 3] [] [[(g, .inr (11, [.int x_7.2, .ref gw, .ref gB, .ref gK, .ref gU, .ref gS, .int gbe, .int gwo, .long gta, .null, .int glr, .int glc, .int gti, .int ggo, .ref gR, .int gch, .ref gD]))], [(gB, .inl (cy 4, 5, .inr (.inr (.inr (.inr (yad gBd))))))], xg_rows gBd 5 (cy 2) 5 gBG, [(gK, .inl (cy 4, 5, .inr (.inr (.inr (.inr (yad gKd))))))], xg_rows gKd 5 (cy 2) 5 gKG, [(q_12, .inr (1, [.ref q_17, .int 0, .int 0, .int b_18.2.1]))], [(q_17, .inl (cy 0, 16, .inl b_18.2.2))], [(q_23, .inr (0, [.ref q_24, .int 0, .int 0, .int 0]))], [(q_24, .inl (cy 0, x_19.2, .inl x_19.1))]] rfl (by decide +kernel) rfl ?_
        refine xr_st (st' := [.ref q_23]) rfl ?_
        obtain rfl := Option.some.inj hR
        refine xr_perm C 9 [0, 1, 2, 3, 4, 7, 8] [5, 6] [[(g, .inr (11, [.int x_7.2, .ref gw, .ref gB, .ref gK, .ref gU, .ref gS, .int gbe, .int gwo, .long gta, .null, .int glr, .int glc, .int gti, .int ggo, .ref gR, .int gch, .ref gD]))], [(gB, .inl (cy 4, 5, .inr (.inr (.inr (.inr (yad gBd))))))], xg_rows gBd 5 (cy 2) 5 gBG, [(gK, .inl (cy 4, 5, .inr (.inr (.inr (.inr (yad gKd))))))], xg_rows gKd 5 (cy 2) 5 gKG, [(q_23, .inr (0, [.ref q_24, .int 0, .int 0, .int 0]))], [(q_24, .inl (cy 0, x_19.2, .inl x_19.1))]] rfl (by decide +kernel) rfl ?_
        exact ret q_23 (Or.inl ⟨_, rfl, q_23, q_24, rfl, rfl⟩) (Nat.le_of_ble_eq_true rfl) (Nat.le_of_ble_eq_true rfl) dd_X9_row_4.2.2.2.2.2.2.1
      refine y_loop (P := fun (s_18 : Int32 × Int32 × (Nat → Int32)) => X p l e (yR 7 4 40) s m args below meth c D A H0 5 Q [[(g, .inr (11, [.int x_7.2, .ref gw, .ref gB, .ref gK, .ref gU, .ref gS, .int gbe, .int gwo, .long gta, .null, .int glr, .int glc, .int gti, .int ggo, .ref gR, .int gch, .ref gD]))], [(gB, .inl (cy 4, 5, .inr (.inr (.inr (.inr (yad gBd))))))], xg_rows gBd 5 (cy 2) 5 gBG, [(gK, .inl (cy 4, 5, .inr (.inr (.inr (.inr (yad gKd))))))], xg_rows gKd 5 (cy 2) 5 gKG, [(q_12, .inr (1, [.ref q_17, .int 0, .int 0, .int s_18.2.1]))], [(q_17, .inl (cy 0, 16, .inl s_18.2.2))]] (0 + 1 + 1) (0 + 4 + 16) [(0, .ref g), (1, .int i1), (2, .ref q_12), (3, .int s_18.1)] 36 []) ?_ _ (0, 0, fun _ => 0) hb_18
      intro s_18 o_18 ho_18 hk_18 hx_18
      refine xr_iload_n (n := 37) (j := 3) C dd_X9_row_1.2.2.2.2.1 rfl rfl ?_
      refine xr_iconst (n := 38) (v := 5) C dd_X9_row_1.2.2.2.2.2.1 rfl rfl ?_
      refine xr_icmp_ge (tgt := 132) (n := 41) C dd_X9_row_1.2.2.2.2.2.2.1 rfl rfl (fun c_25 => ?_) (fun c_25 => ?_)
      · replace ho_18 := yf_t c_25 ho_18
        refine xr_lv (lv' := [(2, .ref q_12)]) [2] rfl ?_
        have e_26 := hx_18 _ (Option.some.inj ho_18).symm
        subst e_26
        exact K_18
      · replace ho_18 := yf_f c_25 ho_18
        refine xr_aload_n (n := 42) (j := 0) C dd_X9_row_1.2.2.2.2.2.2.2.1 rfl rfl ?_
        refine xr_get (n := 45) C 0 rfl rfl 9 (by decide) in_X9 u_1246 rfl (v := .null) rfl dd_X9_row_1.2.2.2.2.2.2.2.2.1 rfl ?_
        refine xr_ifnullN (tgt := 74) C dd_X9_row_1.2.2.2.2.2.2.2.2.2.1 rfl ?_
        refine xr_iconst (n := 75) (v := 0) C dd_X9_row_2.2.2.2.2.2.2.1 rfl rfl ?_
        refine xr_istore (n := 77) C [(4, .int 0), (0, .ref g), (1, .int i1), (2, .ref q_12), (3, .int s_18.1)] dd_X9_row_2.2.2.2.2.2.2.2.1 (by decide) rfl rfl ?_
        refine xr_aload_n (n := 78) (j := 3) C dd_X9_row_2.2.2.2.2.2.2.2.2.1 rfl rfl ?_
        refine xr_aload_n (n := 79) (j := 1) C dd_X9_row_2.2.2.2.2.2.2.2.2.2.1 rfl rfl ?_
        refine xr_get (n := 82) C 0 rfl rfl 3 (by decide) in_X9 u_1240 rfl (v := .ref gK) rfl dd_X9_row_2.2.2.2.2.2.2.2.2.2.2.1 rfl ?_
        refine xr_iload_n (n := 83) (j := 2) C dd_X9_row_2.2.2.2.2.2.2.2.2.2.2.2.1 rfl rfl ?_
        obtain ⟨g_27, ho_18⟩ := yf_g ho_18
        refine xr_aald (n := 84) C 3 0 rfl 4 rfl rfl g_27 rfl dd_X9_row_2.2.2.2.2.2.2.2.2.2.2.2.2.1 rfl ?_
        refine xr_iload_n (n := 85) (j := 4) C dd_X9_row_2.2.2.2.2.2.2.2.2.2.2.2.2.2.1 rfl rfl ?_
        obtain ⟨g_28, ho_18⟩ := yf_g ho_18
        refine xr_zaldg (n := 86) C 4 rfl i1.toNatClampNeg (ylt g_27) g_28 dd_X9_row_2.2.2.2.2.2.2.2.2.2.2.2.2.2.2.1 rfl ?_
        obtain ⟨r_34, hE_34, ho_18⟩ := yf_b ho_18
        have J_34 : X p l e (yR 7 4 40) s m args below meth c D A H0 5 Q [[(g, .inr (11, [.int x_7.2, .ref gw, .ref gB, .ref gK, .ref gU, .ref gS, .int gbe, .int gwo, .long gta, .null, .int glr, .int glc, .int gti, .int ggo, .ref gR, .int gch, .ref gD]))], [(gB, .inl (cy 4, 5, .inr (.inr (.inr (.inr (yad gBd))))))], xg_rows gBd 5 (cy 2) 5 gBG, [(gK, .inl (cy 4, 5, .inr (.inr (.inr (.inr (yad gKd))))))], xg_rows gKd 5 (cy 2) 5 gKG, [(q_12, .inr (1, [.ref q_17, .int 0, .int 0, .int s_18.2.1]))], [(q_17, .inl (cy 0, 16, .inl s_18.2.2))]] (0 + 1 + 1) (0 + 4 + 16) [(0, .ref g), (1, .int i1), (2, .ref q_12), (3, .int s_18.1)] 122 [.int r_34, .ref q_12] := by
          obtain ⟨x_35, hx_35, ho_18⟩ := yf_b ho_18
          refine xr_callV (n := 125) (As := [.int r_34]) (rest := []) C (kJ4_append_cf468 l D cy (h := q_12) (hv := q_17) (hc := s_18.2.1) (hf := s_18.2.2) (hn := 16) (i1 := r_34) hx_35) mJ4_append_cf468 u_1550 u_944 u_945 5 rfl rfl 7 [5, 6] [0, 1, 2, 3, 4] rfl (by decide +kernel) rfl rfl rfl rfl (Nat.le_of_ble_eq_true rfl) (Nat.le_of_ble_eq_true rfl) (Nat.le_of_ble_eq_true rfl) (Nat.le_of_ble_eq_true rfl) (Nat.le_of_ble_eq_true rfl) dd_X9_row_4.1 rfl (fun v_36 u_37 hp_38 => ?_)
          obtain ⟨rfl, rfl⟩ := hp_38
          refine xr_perm C 7 [2, 3, 4, 5, 6, 0, 1] [] [[(g, .inr (11, [.int x_7.2, .ref gw, .ref gB, .ref gK, .ref gU, .ref gS, .int gbe, .int gwo, .long gta, .null, .int glr, .int glc, .int gti, .int ggo, .ref gR, .int gch, .ref gD]))], [(gB, .inl (cy 4, 5, .inr (.inr (.inr (.inr (yad gBd))))))], xg_rows gBd 5 (cy 2) 5 gBG, [(gK, .inl (cy 4, 5, .inr (.inr (.inr (.inr (yad gKd))))))], xg_rows gKd 5 (cy 2) 5 gKG, [(q_12, .inr (1, [.ref q_17, .int 0, .int 0, .int x_35.1]))], [(q_17, .inl (cy 0, 16, .inl x_35.2))]] rfl (by decide +kernel) rfl ?_
          refine xr_st (st' := [.ref q_12]) rfl ?_
          refine xr_pop (n := 126) C dd_X9_row_4.2.1 rfl rfl ?_
          refine xr_iinc (j := 3) (v := s_18.1 + 1) (n := 129) C [(3, .int (s_18.1 + 1)), (0, .ref g), (1, .int i1), (2, .ref q_12)] dd_X9_row_4.2.2.1 rfl rfl (by decide) rfl rfl ?_
          refine xr_goto (tgt := 36) C dd_X9_row_4.2.2.2.1 rfl ?_
          refine xr_lv (lv' := [(0, .ref g), (1, .int i1), (2, .ref q_12), (3, .int (s_18.1 + 1))]) [1, 2, 3, 0] rfl ?_
          exact hk_18 (s_18.1 + 1, x_35.1, x_35.2) (Option.some.inj ho_18).symm
        refine xr_if_eq (tgt := 94) (n := 89) C dd_X9_row_2.2.2.2.2.2.2.2.2.2.2.2.2.2.2.2.1 rfl rfl (fun c_39 => ?_) (fun c_39 => ?_)
        · replace hE_34 := yf_t c_39 hE_34
          refine xr_aload_n (n := 95) (j := 1) C dd_X9_row_3.2.2.1 rfl rfl ?_
          refine xr_get (n := 98) C 0 rfl rfl 2 (by decide) in_X9 u_1239 rfl (v := .ref gB) rfl dd_X9_row_3.2.2.2.1 rfl ?_
          refine xr_iload_n (n := 99) (j := 2) C dd_X9_row_3.2.2.2.2.1 rfl rfl ?_
          obtain ⟨g_40, hE_34⟩ := yf_g hE_34
          refine xr_aald (n := 100) C 1 0 rfl 4 rfl rfl g_40 rfl dd_X9_row_3.2.2.2.2.2.1 rfl ?_
          refine xr_iload_n (n := 101) (j := 4) C dd_X9_row_3.2.2.2.2.2.2.1 rfl rfl ?_
          obtain ⟨g_41, hE_34⟩ := yf_g hE_34
          refine xr_zaldg (n := 102) C 2 rfl i1.toNatClampNeg (ylt g_40) g_41 dd_X9_row_3.2.2.2.2.2.2.2.1 rfl ?_
          refine xr_if_eq (tgt := 110) (n := 105) C dd_X9_row_3.2.2.2.2.2.2.2.2.1 rfl rfl (fun c_42 => ?_) (fun c_42 => ?_)
          · replace hE_34 := yf_t c_42 hE_34
            refine xr_iload (n := 112) (j := 0) C dd_X9_row_3.2.2.2.2.2.2.2.2.2.2.2.1 rfl rfl ?_
            refine xr_if_eq (tgt := 120) (n := 115) C dd_X9_row_3.2.2.2.2.2.2.2.2.2.2.2.2.1 rfl rfl (fun _ => ?_) (fun c_43 => absurd (by decide) c_43)
            refine xr_bipush (n := 122) (v := 46) C dd_X9_row_3.2.2.2.2.2.2.2.2.2.2.2.2.2.2.2.1 rfl rfl ?_
            refine xr_lv (lv' := [(0, .ref g), (1, .int i1), (2, .ref q_12), (3, .int s_18.1)]) [1, 2, 3, 4] rfl ?_
            have e_44 := Option.some.inj hE_34
            subst e_44
            exact J_34
          · replace hE_34 := yf_f c_42 hE_34
            refine xr_bipush (n := 107) (v := 63) C dd_X9_row_3.2.2.2.2.2.2.2.2.2.1 rfl rfl ?_
            refine xr_goto (tgt := 122) C dd_X9_row_3.2.2.2.2.2.2.2.2.2.2.1 rfl ?_
            refine xr_lv (lv' := [(0, .ref g), (1, .int i1), (2, .ref q_12), (3, .int s_18.1)]) [1, 2, 3, 4] rfl ?_
            have e_45 := Option.some.inj hE_34
            subst e_45
            exact J_34
        · replace hE_34 := yf_f c_39 hE_34
          refine xr_bipush (n := 91) (v := 120) C dd_X9_row_3.1 rfl rfl ?_
          refine xr_goto (tgt := 122) C dd_X9_row_3.2.1 rfl ?_
          refine xr_lv (lv' := [(0, .ref g), (1, .int i1), (2, .ref q_12), (3, .int s_18.1)]) [1, 2, 3, 4] rfl ?_
          have e_46 := Option.some.inj hE_34
          subst e_46
          exact J_34
    · replace hR := yf_f c_11 hR
      refine xr_ldcws (n := 25) (tx := "") C (by decide +kernel) dd_X9_row_0.2.2.2.2.2.2.2.2.2.2.2.2.1 rfl (fun q_47 => ?_)
      obtain rfl := Option.some.inj hR
      exact ret q_47 (Or.inr ⟨_, rfl, q_47, rfl, rfl⟩) (Nat.le_of_ble_eq_true rfl) (Nat.le_of_ble_eq_true rfl) dd_X9_row_0.2.2.2.2.2.2.2.2.2.2.2.2.2.1
  refine xr_if_ne (tgt := 14) (n := 10) C dd_X9_row_0.2.2.2.2.2.1 rfl rfl (fun c_48 => ?_) (fun c_48 => ?_)
  · replace hE_6 := yf_f c_48 hE_6
    refine xr_iconst (n := 15) (v := 0) C dd_X9_row_0.2.2.2.2.2.2.2.2.1 rfl rfl ?_
    have e_49 := Option.some.inj hE_6
    subst e_49
    exact J_6
  · replace hE_6 := yf_t c_48 hE_6
    refine xr_iconst (n := 11) (v := 1) C dd_X9_row_0.2.2.2.2.2.2.1 rfl rfl ?_
    refine xr_goto (tgt := 15) C dd_X9_row_0.2.2.2.2.2.2.2.1 rfl ?_
    have e_50 := Option.some.inj hE_6
    subst e_50
    exact J_6
def fX9_row_r (glr : Int32) (glc : Int32) (gBG : Nat → Nat → Int32) (gKG : Nat → Nat → Int32) (i1 : Int32) : Option ((Int32 × (Nat → Int32) × Nat) ⊕ Int32) := ((fX9_isIn i1 0 4).bind fun x_1 => ((((if x_1 = 0 then some 1 else some 0) : Option (Int32))).bind fun r_6 => ((fX9_start_r r_6 1).bind fun x_7 => (if x_7.1 = 0 then ((fJ4_init_da8c8).bind fun x_13 => ((wl (S := Int32 × Int32 × (Nat → Int32)) (B := Int32 × Int32 × (Nat → Int32)) (fun s_18 => (if 5 ≤ s_18.1 then some (.inr (s_18.1, s_18.2.1, s_18.2.2)) else ((fX9_has glr i1).bind fun x_27 => ((((if x_27 = 0 then some 0 else ((fX9_has glc s_18.1).bind fun x_61 => (if x_61 = 0 then some 0 else some 1))) : Option (Int32))).bind fun r_37 => (if ¬ (i1 < 0 ∨ 5 ≤ i1.toNatClampNeg) then (if ¬ (s_18.1 < 0 ∨ 5 ≤ s_18.1.toNatClampNeg) then ((((if (gKG i1.toNatClampNeg s_18.1.toNatClampNeg) = 0 then (if ¬ (i1 < 0 ∨ 5 ≤ i1.toNatClampNeg) then (if ¬ (s_18.1 < 0 ∨ 5 ≤ s_18.1.toNatClampNeg) then (if (gBG i1.toNatClampNeg s_18.1.toNatClampNeg) = 0 then (if r_37 = 0 then some 46 else some 111) else some 63) else none) else none) else some 120) : Option (Int32))).bind fun r_45 => ((fJ4_append_cf468 s_18.2.1 s_18.2.2 16 r_45).bind fun x_46 => some (.inl (s_18.1 + 1, x_46.1, x_46.2)))) else none) else none))))) yFuel (0, 0, fun _ => 0)).bind fun b_18 => ((fJ4_toString_0e30d b_18.2.1 b_18.2.2 16).bind fun x_19 => some (.inl (x_7.2, x_19.1, x_19.2))))) else some (.inr x_7.2)))))
set_option maxHeartbeats 4000000 in
set_option maxRecDepth 100000 in
theorem kX9_row_r (l : Launch) (D : va_G) (cy : Nat → ClassId) (g : Nat) (gth : Int32) (gw : Nat) (gB : Nat) (gK : Nat) (gU : Nat) (gS : Nat) (gbe : Int32) (gwo : Int32) (gta : Int64) (gn : Nat) (glr : Int32) (glc : Int32) (gti : Int32) (ggo : Int32) (gR : Nat) (gch : Int32) (gD : Nat) (gBd : Nat → Nat) (gBG : Nat → Nat → Int32) (gKd : Nat → Nat) (gKG : Nat → Nat → Int32) (gnr : Int32) (gnk : Int32) (gnc : Int32) (gng : Int32) (gns : Int32) (gna : Nat) (gnb : Nat) (i1 : Int32) {res : (Int32 × (Nat → Int32) × Nat) ⊕ Int32} (hR : fX9_row_r glr glc gBG gKG i1 = some res) : YM l D cy yX9_row hX9_row 7 4 40 [.ref g, .int i1] [[(g, .inr (11, [.int gth, .ref gw, .ref gB, .ref gK, .ref gU, .ref gS, .int gbe, .int gwo, .long gta, .ref gn, .int glr, .int glc, .int gti, .int ggo, .ref gR, .int gch, .ref gD]))], [(gB, .inl (cy 4, 5, .inr (.inr (.inr (.inr (yad gBd))))))], xg_rows gBd 5 (cy 2) 5 gBG, [(gK, .inl (cy 4, 5, .inr (.inr (.inr (.inr (yad gKd))))))], xg_rows gKd 5 (cy 2) 5 gKG, [(gn, .inr (10, [.int gnr, .int gnk, .int gnc, .int gng, .int gns, .ref gna, .ref gnb]))]] (fun v u => (∃ r, res = .inl r ∧ ∃ rs : Nat, ∃ rsv : Nat, v = some (.ref rs) ∧ u = [[(g, .inr (11, [.int r.1, .ref gw, .ref gB, .ref gK, .ref gU, .ref gS, .int gbe, .int gwo, .long gta, .ref gn, .int glr, .int glc, .int gti, .int ggo, .ref gR, .int gch, .ref gD]))], [(gB, .inl (cy 4, 5, .inr (.inr (.inr (.inr (yad gBd))))))], xg_rows gBd 5 (cy 2) 5 gBG, [(gK, .inl (cy 4, 5, .inr (.inr (.inr (.inr (yad gKd))))))], xg_rows gKd 5 (cy 2) 5 gKG, [(gn, .inr (10, [.int gnr, .int gnk, .int gnc, .int gng, .int gns, .ref gna, .ref gnb]))], [(rs, .inr (0, [.ref rsv, .int 0, .int 0, .int 0]))], [(rsv, .inl (cy 0, r.2.2, .inl r.2.1))]]) ∨ (∃ r, res = .inr r ∧ ∃ rs : Nat, v = some (.ref rs) ∧ u = [[(g, .inr (11, [.int r, .ref gw, .ref gB, .ref gK, .ref gU, .ref gS, .int gbe, .int gwo, .long gta, .ref gn, .int glr, .int glc, .int gti, .int ggo, .ref gR, .int gch, .ref gD]))], [(gB, .inl (cy 4, 5, .inr (.inr (.inr (.inr (yad gBd))))))], xg_rows gBd 5 (cy 2) 5 gBG, [(gK, .inl (cy 4, 5, .inr (.inr (.inr (.inr (yad gKd))))))], xg_rows gKd 5 (cy 2) 5 gKG, [(gn, .inr (10, [.int gnr, .int gnk, .int gnc, .int gng, .int gns, .ref gna, .ref gnb]))]])) := by
  unfold fX9_row_r at hR
  refine YM.ofA (cc := cX9_row) (maxL := 5) (ret := (some (.object "java/lang/String"))) (by decide +kernel) rfl (Nat.le_of_ble_eq_true rfl) [(0, .ref g), (1, .int i1)] rfl (.object "java/lang/String") rfl (Or.inl ⟨_, rfl⟩) (fun p e s m args below meth c A H0 Q C hnm ret => ?_)
  refine xr_aload_n (n := 1) (j := 0) C dd_X9_row_0.1 rfl rfl ?_
  refine xr_iload_n (n := 2) (j := 1) C dd_X9_row_0.2.1 rfl rfl ?_
  refine xr_iconst (n := 3) (v := 0) C dd_X9_row_0.2.2.1 rfl rfl ?_
  refine xr_iconst (n := 4) (v := 4) C dd_X9_row_0.2.2.2.1 rfl rfl ?_
  obtain ⟨x_1, hx_1, hR⟩ := yf_b hR
  refine xr_callSp (n := 7) (As := [.int i1, .int 0, .int 4]) (rest := [.ref g]) C (kX9_isIn l D cy (i1 := i1) (i2 := 0) (i3 := 4) hx_1) mX9_isIn u_1294 u_1295 6 [] [0, 1, 2, 3, 4, 5] rfl (by decide +kernel) rfl rfl rfl rfl (Nat.le_of_ble_eq_true rfl) (Nat.le_of_ble_eq_true rfl) (Nat.le_of_ble_eq_true rfl) (Nat.le_of_ble_eq_true rfl) (Nat.le_of_ble_eq_true rfl) dd_X9_row_0.2.2.2.2.1 rfl (fun _ _ hp => hp.2) (fun v_2 hp_4 => ?_)
  obtain ⟨rfl, -⟩ := hp_4
  refine xr_st (st' := [.int x_1, .ref g]) rfl ?_
  obtain ⟨r_6, hE_6, hR⟩ := yf_b hR
  have J_6 : X p l e (yR 7 4 40) s m args below meth c D A H0 5 Q [[(g, .inr (11, [.int gth, .ref gw, .ref gB, .ref gK, .ref gU, .ref gS, .int gbe, .int gwo, .long gta, .ref gn, .int glr, .int glc, .int gti, .int ggo, .ref gR, .int gch, .ref gD]))], [(gB, .inl (cy 4, 5, .inr (.inr (.inr (.inr (yad gBd))))))], xg_rows gBd 5 (cy 2) 5 gBG, [(gK, .inl (cy 4, 5, .inr (.inr (.inr (.inr (yad gKd))))))], xg_rows gKd 5 (cy 2) 5 gKG, [(gn, .inr (10, [.int gnr, .int gnk, .int gnc, .int gng, .int gns, .ref gna, .ref gnb]))]] 0 0 [(0, .ref g), (1, .int i1)] 15 [.int r_6, .ref g] := by
    refine xr_iconst (n := 16) (v := 1) C dd_X9_row_0.2.2.2.2.2.2.2.2.2.1 rfl rfl ?_
    obtain ⟨x_7, hx_7, hR⟩ := yf_b hR
    refine xr_callV (n := 19) (As := [.int r_6, .int 1]) (rest := []) C (kX9_start_r l D cy (g := g) (gth := gth) (gw := gw) (gB := gB) (gK := gK) (gU := gU) (gS := gS) (gbe := gbe) (gwo := gwo) (gta := gta) (gn := gn) (glr := glr) (glc := glc) (gti := gti) (ggo := ggo) (gR := gR) (gch := gch) (gD := gD) (i1 := r_6) (i2 := 1) hx_7) mX9_start u_1297 u_1299 u_29 0 rfl rfl 6 [0] [1, 2, 3, 4, 5] rfl (by decide +kernel) rfl rfl rfl rfl (Nat.le_of_ble_eq_true rfl) (Nat.le_of_ble_eq_true rfl) (Nat.le_of_ble_eq_true rfl) (Nat.le_of_ble_eq_true rfl) (Nat.le_of_ble_eq_true rfl) dd_X9_row_0.2.2.2.2.2.2.2.2.2.2.1 rfl (fun v_8 u_9 hp_10 => ?_)
    obtain ⟨rfl, rfl⟩ := hp_10
    refine xr_perm C 6 [0, 1, 2, 3, 4, 5] [] [[(g, .inr (11, [.int x_7.2, .ref gw, .ref gB, .ref gK, .ref gU, .ref gS, .int gbe, .int gwo, .long gta, .ref gn, .int glr, .int glc, .int gti, .int ggo, .ref gR, .int gch, .ref gD]))], [(gB, .inl (cy 4, 5, .inr (.inr (.inr (.inr (yad gBd))))))], xg_rows gBd 5 (cy 2) 5 gBG, [(gK, .inl (cy 4, 5, .inr (.inr (.inr (.inr (yad gKd))))))], xg_rows gKd 5 (cy 2) 5 gKG, [(gn, .inr (10, [.int gnr, .int gnk, .int gnc, .int gng, .int gns, .ref gna, .ref gnb]))]] rfl (by decide +kernel) rfl ?_
    refine xr_st (st' := [.int x_7.1]) rfl ?_
    refine xr_if_eq (tgt := 26) (n := 22) C dd_X9_row_0.2.2.2.2.2.2.2.2.2.2.2.1 rfl rfl (fun c_11 => ?_) (fun c_11 => ?_)
    · replace hR := yf_t c_11 hR
      refine xr_new (n := 29) (ci := 1) C tyJ4 tyJ4_ok in_J4 u_1548 u_908 u_76 rfl [.null, .int 0, .int 0, .int 0] (by decide) (Nat.le_of_ble_eq_true rfl) (Nat.le_of_ble_eq_true rfl) dd_X9_row_0.2.2.2.2.2.2.2.2.2.2.2.2.2.2.1 rfl (fun q_12 => ?_)
      refine xr_eq (bs' := [[(g, .inr (11, [.int x_7.2, .ref gw, .ref gB, .ref gK, .ref gU, .ref gS, .int gbe, .int gwo, .long gta, .ref gn, .int glr, .int glc, .int gti, .int ggo, .ref gR, .int gch, .ref gD]))], [(gB, .inl (cy 4, 5, .inr (.inr (.inr (.inr (yad gBd))))))], xg_rows gBd 5 (cy 2) 5 gBG, [(gK, .inl (cy 4, 5, .inr (.inr (.inr (.inr (yad gKd))))))], xg_rows gKd 5 (cy 2) 5 gKG, [(gn, .inr (10, [.int gnr, .int gnk, .int gnc, .int gng, .int gns, .ref gna, .ref gnb]))], [(q_12, .inr (1, [.null, .int 0, .int 0, .int 0]))]]) rfl ?_
      refine xr_dup (n := 30) C dd_X9_row_0.2.2.2.2.2.2.2.2.2.2.2.2.2.2.2.1 rfl rfl ?_
      obtain ⟨x_13, hx_13, hR⟩ := yf_b hR
      refine xr_callI (n := 33) (As := []) (rest := [.ref q_12]) C (kJ4_init_da8c8 l D cy (h := q_12) hx_13) mJ4_init_da8c8 u_1549 u_910 rfl 7 [6] [0, 1, 2, 3, 4, 5] rfl (by decide +kernel) rfl rfl rfl rfl (Nat.le_of_ble_eq_true rfl) (Nat.le_of_ble_eq_true rfl) (Nat.le_of_ble_eq_true rfl) (Nat.le_of_ble_eq_true rfl) (Nat.le_of_ble_eq_true rfl) dd_X9_row_1.1 rfl (fun v_14 u_15 hp_16 => ?_)
      obtain ⟨q_17, rfl, rfl⟩ := hp_16
      refine xr_perm C 8 [2, 3, 4, 5, 6, 7, 0, 1] [] [[(g, .inr (11, [.int x_7.2, .ref gw, .ref gB, .ref gK, .ref gU, .ref gS, .int gbe, .int gwo, .long gta, .ref gn, .int glr, .int glc, .int gti, .int ggo, .ref gR, .int gch, .ref gD]))], [(gB, .inl (cy 4, 5, .inr (.inr (.inr (.inr (yad gBd))))))], xg_rows gBd 5 (cy 2) 5 gBG, [(gK, .inl (cy 4, 5, .inr (.inr (.inr (.inr (yad gKd))))))], xg_rows gKd 5 (cy 2) 5 gKG, [(gn, .inr (10, [.int gnr, .int gnk, .int gnc, .int gng, .int gns, .ref gna, .ref gnb]))], [(q_12, .inr (1, [.ref q_17, .int 0, .int 0, .int 0]))], [(q_17, .inl (cy 0, 16, .inl (fun _ => 0)))]] rfl (by decide +kernel) rfl ?_
      refine xr_astore_n (n := 34) C [(2, .ref q_12), (0, .ref g), (1, .int i1)] dd_X9_row_1.2.1 (by decide) rfl rfl ?_
      refine xr_iconst (n := 35) (v := 0) C dd_X9_row_1.2.2.1 rfl rfl ?_
      refine xr_istore_n (n := 36) C [(3, .int 0), (2, .ref q_12), (0, .ref g), (1, .int i1)] dd_X9_row_1.2.2.2.1 (by decide) rfl rfl ?_
      refine xr_lv (lv' := [(0, .ref g), (1, .int i1), (2, .ref q_12), (3, .int 0)]) [2, 3, 1, 0] rfl ?_
      obtain ⟨b_18, hb_18, hR⟩ := yf_b hR
      have K_18 : X p l e (yR 7 4 40) s m args below meth c D A H0 5 Q [[(g, .inr (11, [.int x_7.2, .ref gw, .ref gB, .ref gK, .ref gU, .ref gS, .int gbe, .int gwo, .long gta, .ref gn, .int glr, .int glc, .int gti, .int ggo, .ref gR, .int gch, .ref gD]))], [(gB, .inl (cy 4, 5, .inr (.inr (.inr (.inr (yad gBd))))))], xg_rows gBd 5 (cy 2) 5 gBG, [(gK, .inl (cy 4, 5, .inr (.inr (.inr (.inr (yad gKd))))))], xg_rows gKd 5 (cy 2) 5 gKG, [(gn, .inr (10, [.int gnr, .int gnk, .int gnc, .int gng, .int gns, .ref gna, .ref gnb]))], [(q_12, .inr (1, [.ref q_17, .int 0, .int 0, .int b_18.2.1]))], [(q_17, .inl (cy 0, 16, .inl b_18.2.2))]] (0 + 1 + 1) (0 + 4 + 16) [(2, .ref q_12)] 132 [] := by
        refine xr_aload_n (n := 133) (j := 0) C dd_X9_row_4.2.2.2.2.1 rfl rfl ?_
        obtain ⟨x_19, hx_19, hR⟩ := yf_b hR
        refine xr_callV (n := 136) (As := []) (rest := []) C (kJ4_toString_0e30d l D cy (h := q_12) (hv := q_17) (hc := b_18.2.1) (hf := b_18.2.2) (hn := 16) hx_19) mJ4_toString_0e30d u_1551 u_1035 u_1036 6 rfl rfl 8 [6, 7] [0, 1, 2, 3, 4, 5] rfl (by decide +kernel) rfl rfl rfl rfl (Nat.le_of_ble_eq_true rfl) (Nat.le_of_ble_eq_true rfl) (Nat.le_of_ble_eq_true rfl) (Nat.le_of_ble_eq_true rfl) (Nat.le_of_ble_eq_true rfl) dd_X9_row_4.2.2.2.2.2.1 rfl (fun v_20 u_21 hp_22 => ?_)
        obtain ⟨q_23, q_24, rfl, rfl⟩ := hp_22
        refine xr_perm C 10 [4, 5, 6, 7, 8, 9, 0, 1, 2, 3] [] [[(g, .inr (11, [.int x_7.2, .ref gw, .ref gB, .ref gK, .ref gU, .ref gS, .int gbe, .int gwo, .long gta, .ref gn, .int glr, .int glc, .int gti, .int ggo, .ref gR, .int gch, .ref gD]))], [(gB, .inl (cy 4, 5, .inr (.inr (.inr (.inr (yad gBd))))))], xg_rows gBd 5 (cy 2) 5 gBG, [(gK, .inl (cy 4, 5, .inr (.inr (.inr (.inr (yad gKd))))))], xg_rows gKd 5 (cy 2) 5 gKG, [(gn, .inr (10, [.int gnr, .int gnk, .int gnc, .int gng, .int gns, .ref gna, .ref gnb]))], [(q_12, .inr (1, [.ref q_17, .int 0, .int 0, .int b_18.2.1]))], [(q_17, .inl (cy 0, 16, .inl b_18.2.2))], [(q_23, .inr (0, [.ref q_24, .int 0, .int 0, .int 0]))], [(q_24, .inl (cy 0, x_19.2, .inl x_19.1))]] rfl (by decide +kernel) rfl ?_
        refine xr_st (st' := [.ref q_23]) rfl ?_
        obtain rfl := Option.some.inj hR
        refine xr_perm C 10 [0, 1, 2, 3, 4, 5, 8, 9] [6, 7] [[(g, .inr (11, [.int x_7.2, .ref gw, .ref gB, .ref gK, .ref gU, .ref gS, .int gbe, .int gwo, .long gta, .ref gn, .int glr, .int glc, .int gti, .int ggo, .ref gR, .int gch, .ref gD]))], [(gB, .inl (cy 4, 5, .inr (.inr (.inr (.inr (yad gBd))))))], xg_rows gBd 5 (cy 2) 5 gBG, [(gK, .inl (cy 4, 5, .inr (.inr (.inr (.inr (yad gKd))))))], xg_rows gKd 5 (cy 2) 5 gKG, [(gn, .inr (10, [.int gnr, .int gnk, .int gnc, .int gng, .int gns, .ref gna, .ref gnb]))], [(q_23, .inr (0, [.ref q_24, .int 0, .int 0, .int 0]))], [(q_24, .inl (cy 0, x_19.2, .inl x_19.1))]] rfl (by decide +kernel) rfl ?_
        exact ret q_23 (Or.inl ⟨_, rfl, q_23, q_24, rfl, rfl⟩) (Nat.le_of_ble_eq_true rfl) (Nat.le_of_ble_eq_true rfl) dd_X9_row_4.2.2.2.2.2.2.1
      refine y_loop (P := fun (s_18 : Int32 × Int32 × (Nat → Int32)) => X p l e (yR 7 4 40) s m args below meth c D A H0 5 Q [[(g, .inr (11, [.int x_7.2, .ref gw, .ref gB, .ref gK, .ref gU, .ref gS, .int gbe, .int gwo, .long gta, .ref gn, .int glr, .int glc, .int gti, .int ggo, .ref gR, .int gch, .ref gD]))], [(gB, .inl (cy 4, 5, .inr (.inr (.inr (.inr (yad gBd))))))], xg_rows gBd 5 (cy 2) 5 gBG, [(gK, .inl (cy 4, 5, .inr (.inr (.inr (.inr (yad gKd))))))], xg_rows gKd 5 (cy 2) 5 gKG, [(gn, .inr (10, [.int gnr, .int gnk, .int gnc, .int gng, .int gns, .ref gna, .ref gnb]))], [(q_12, .inr (1, [.ref q_17, .int 0, .int 0, .int s_18.2.1]))], [(q_17, .inl (cy 0, 16, .inl s_18.2.2))]] (0 + 1 + 1) (0 + 4 + 16) [(0, .ref g), (1, .int i1), (2, .ref q_12), (3, .int s_18.1)] 36 []) ?_ _ (0, 0, fun _ => 0) hb_18
      intro s_18 o_18 ho_18 hk_18 hx_18
      refine xr_iload_n (n := 37) (j := 3) C dd_X9_row_1.2.2.2.2.1 rfl rfl ?_
      refine xr_iconst (n := 38) (v := 5) C dd_X9_row_1.2.2.2.2.2.1 rfl rfl ?_
      refine xr_icmp_ge (tgt := 132) (n := 41) C dd_X9_row_1.2.2.2.2.2.2.1 rfl rfl (fun c_25 => ?_) (fun c_25 => ?_)
      · replace ho_18 := yf_t c_25 ho_18
        refine xr_lv (lv' := [(2, .ref q_12)]) [2] rfl ?_
        have e_26 := hx_18 _ (Option.some.inj ho_18).symm
        subst e_26
        exact K_18
      · replace ho_18 := yf_f c_25 ho_18
        refine xr_aload_n (n := 42) (j := 0) C dd_X9_row_1.2.2.2.2.2.2.2.1 rfl rfl ?_
        refine xr_get (n := 45) C 0 rfl rfl 9 (by decide) in_X9 u_1246 rfl (v := .ref gn) rfl dd_X9_row_1.2.2.2.2.2.2.2.2.1 rfl ?_
        refine xr_ifnull (n := 48) C dd_X9_row_1.2.2.2.2.2.2.2.2.2.1 rfl ?_
        refine xr_aload_n (n := 49) (j := 0) C dd_X9_row_1.2.2.2.2.2.2.2.2.2.2.1 rfl rfl ?_
        refine xr_get (n := 52) C 0 rfl rfl 10 (by decide) in_X9 u_1247 rfl (v := .int glr) rfl dd_X9_row_1.2.2.2.2.2.2.2.2.2.2.2.1 rfl ?_
        refine xr_iload_n (n := 53) (j := 1) C dd_X9_row_1.2.2.2.2.2.2.2.2.2.2.2.2.1 rfl rfl ?_
        obtain ⟨x_27, hx_27, ho_18⟩ := yf_b ho_18
        refine xr_callSp (n := 56) (As := [.int glr, .int i1]) (rest := []) C (kX9_has l D cy (i1 := glr) (i2 := i1) hx_27) mX9_has u_1373 u_1374 8 [] [0, 1, 2, 3, 4, 5, 6, 7] rfl (by decide +kernel) rfl rfl rfl rfl (Nat.le_of_ble_eq_true rfl) (Nat.le_of_ble_eq_true rfl) (Nat.le_of_ble_eq_true rfl) (Nat.le_of_ble_eq_true rfl) (Nat.le_of_ble_eq_true rfl) dd_X9_row_1.2.2.2.2.2.2.2.2.2.2.2.2.2.1 rfl (fun _ _ hp => hp.2) (fun v_28 hp_30 => ?_)
        obtain ⟨rfl, -⟩ := hp_30
        refine xr_st (st' := [.int x_27]) rfl ?_
        obtain ⟨r_37, hE_37, ho_18⟩ := yf_b ho_18
        have J_37 : X p l e (yR 7 4 40) s m args below meth c D A H0 5 Q [[(g, .inr (11, [.int x_7.2, .ref gw, .ref gB, .ref gK, .ref gU, .ref gS, .int gbe, .int gwo, .long gta, .ref gn, .int glr, .int glc, .int gti, .int ggo, .ref gR, .int gch, .ref gD]))], [(gB, .inl (cy 4, 5, .inr (.inr (.inr (.inr (yad gBd))))))], xg_rows gBd 5 (cy 2) 5 gBG, [(gK, .inl (cy 4, 5, .inr (.inr (.inr (.inr (yad gKd))))))], xg_rows gKd 5 (cy 2) 5 gKG, [(gn, .inr (10, [.int gnr, .int gnk, .int gnc, .int gng, .int gns, .ref gna, .ref gnb]))], [(q_12, .inr (1, [.ref q_17, .int 0, .int 0, .int s_18.2.1]))], [(q_17, .inl (cy 0, 16, .inl s_18.2.2))]] (0 + 1 + 1) (0 + 4 + 16) [(0, .ref g), (1, .int i1), (2, .ref q_12), (3, .int s_18.1)] 75 [.int r_37] := by
          refine xr_istore (n := 77) C [(4, .int r_37), (0, .ref g), (1, .int i1), (2, .ref q_12), (3, .int s_18.1)] dd_X9_row_2.2.2.2.2.2.2.2.1 (by decide) rfl rfl ?_
          refine xr_aload_n (n := 78) (j := 3) C dd_X9_row_2.2.2.2.2.2.2.2.2.1 rfl rfl ?_
          refine xr_aload_n (n := 79) (j := 1) C dd_X9_row_2.2.2.2.2.2.2.2.2.2.1 rfl rfl ?_
          refine xr_get (n := 82) C 0 rfl rfl 3 (by decide) in_X9 u_1240 rfl (v := .ref gK) rfl dd_X9_row_2.2.2.2.2.2.2.2.2.2.2.1 rfl ?_
          refine xr_iload_n (n := 83) (j := 2) C dd_X9_row_2.2.2.2.2.2.2.2.2.2.2.2.1 rfl rfl ?_
          obtain ⟨g_38, ho_18⟩ := yf_g ho_18
          refine xr_aald (n := 84) C 3 0 rfl 4 rfl rfl g_38 rfl dd_X9_row_2.2.2.2.2.2.2.2.2.2.2.2.2.1 rfl ?_
          refine xr_iload_n (n := 85) (j := 4) C dd_X9_row_2.2.2.2.2.2.2.2.2.2.2.2.2.2.1 rfl rfl ?_
          obtain ⟨g_39, ho_18⟩ := yf_g ho_18
          refine xr_zaldg (n := 86) C 4 rfl i1.toNatClampNeg (ylt g_38) g_39 dd_X9_row_2.2.2.2.2.2.2.2.2.2.2.2.2.2.2.1 rfl ?_
          obtain ⟨r_45, hE_45, ho_18⟩ := yf_b ho_18
          have J_45 : X p l e (yR 7 4 40) s m args below meth c D A H0 5 Q [[(g, .inr (11, [.int x_7.2, .ref gw, .ref gB, .ref gK, .ref gU, .ref gS, .int gbe, .int gwo, .long gta, .ref gn, .int glr, .int glc, .int gti, .int ggo, .ref gR, .int gch, .ref gD]))], [(gB, .inl (cy 4, 5, .inr (.inr (.inr (.inr (yad gBd))))))], xg_rows gBd 5 (cy 2) 5 gBG, [(gK, .inl (cy 4, 5, .inr (.inr (.inr (.inr (yad gKd))))))], xg_rows gKd 5 (cy 2) 5 gKG, [(gn, .inr (10, [.int gnr, .int gnk, .int gnc, .int gng, .int gns, .ref gna, .ref gnb]))], [(q_12, .inr (1, [.ref q_17, .int 0, .int 0, .int s_18.2.1]))], [(q_17, .inl (cy 0, 16, .inl s_18.2.2))]] (0 + 1 + 1) (0 + 4 + 16) [(0, .ref g), (1, .int i1), (2, .ref q_12), (3, .int s_18.1)] 122 [.int r_45, .ref q_12] := by
            obtain ⟨x_46, hx_46, ho_18⟩ := yf_b ho_18
            refine xr_callV (n := 125) (As := [.int r_45]) (rest := []) C (kJ4_append_cf468 l D cy (h := q_12) (hv := q_17) (hc := s_18.2.1) (hf := s_18.2.2) (hn := 16) (i1 := r_45) hx_46) mJ4_append_cf468 u_1550 u_944 u_945 6 rfl rfl 8 [6, 7] [0, 1, 2, 3, 4, 5] rfl (by decide +kernel) rfl rfl rfl rfl (Nat.le_of_ble_eq_true rfl) (Nat.le_of_ble_eq_true rfl) (Nat.le_of_ble_eq_true rfl) (Nat.le_of_ble_eq_true rfl) (Nat.le_of_ble_eq_true rfl) dd_X9_row_4.1 rfl (fun v_47 u_48 hp_49 => ?_)
            obtain ⟨rfl, rfl⟩ := hp_49
            refine xr_perm C 8 [2, 3, 4, 5, 6, 7, 0, 1] [] [[(g, .inr (11, [.int x_7.2, .ref gw, .ref gB, .ref gK, .ref gU, .ref gS, .int gbe, .int gwo, .long gta, .ref gn, .int glr, .int glc, .int gti, .int ggo, .ref gR, .int gch, .ref gD]))], [(gB, .inl (cy 4, 5, .inr (.inr (.inr (.inr (yad gBd))))))], xg_rows gBd 5 (cy 2) 5 gBG, [(gK, .inl (cy 4, 5, .inr (.inr (.inr (.inr (yad gKd))))))], xg_rows gKd 5 (cy 2) 5 gKG, [(gn, .inr (10, [.int gnr, .int gnk, .int gnc, .int gng, .int gns, .ref gna, .ref gnb]))], [(q_12, .inr (1, [.ref q_17, .int 0, .int 0, .int x_46.1]))], [(q_17, .inl (cy 0, 16, .inl x_46.2))]] rfl (by decide +kernel) rfl ?_
            refine xr_st (st' := [.ref q_12]) rfl ?_
            refine xr_pop (n := 126) C dd_X9_row_4.2.1 rfl rfl ?_
            refine xr_iinc (j := 3) (v := s_18.1 + 1) (n := 129) C [(3, .int (s_18.1 + 1)), (0, .ref g), (1, .int i1), (2, .ref q_12)] dd_X9_row_4.2.2.1 rfl rfl (by decide) rfl rfl ?_
            refine xr_goto (tgt := 36) C dd_X9_row_4.2.2.2.1 rfl ?_
            refine xr_lv (lv' := [(0, .ref g), (1, .int i1), (2, .ref q_12), (3, .int (s_18.1 + 1))]) [1, 2, 3, 0] rfl ?_
            exact hk_18 (s_18.1 + 1, x_46.1, x_46.2) (Option.some.inj ho_18).symm
          refine xr_if_eq (tgt := 94) (n := 89) C dd_X9_row_2.2.2.2.2.2.2.2.2.2.2.2.2.2.2.2.1 rfl rfl (fun c_50 => ?_) (fun c_50 => ?_)
          · replace hE_45 := yf_t c_50 hE_45
            refine xr_aload_n (n := 95) (j := 1) C dd_X9_row_3.2.2.1 rfl rfl ?_
            refine xr_get (n := 98) C 0 rfl rfl 2 (by decide) in_X9 u_1239 rfl (v := .ref gB) rfl dd_X9_row_3.2.2.2.1 rfl ?_
            refine xr_iload_n (n := 99) (j := 2) C dd_X9_row_3.2.2.2.2.1 rfl rfl ?_
            obtain ⟨g_51, hE_45⟩ := yf_g hE_45
            refine xr_aald (n := 100) C 1 0 rfl 4 rfl rfl g_51 rfl dd_X9_row_3.2.2.2.2.2.1 rfl ?_
            refine xr_iload_n (n := 101) (j := 4) C dd_X9_row_3.2.2.2.2.2.2.1 rfl rfl ?_
            obtain ⟨g_52, hE_45⟩ := yf_g hE_45
            refine xr_zaldg (n := 102) C 2 rfl i1.toNatClampNeg (ylt g_51) g_52 dd_X9_row_3.2.2.2.2.2.2.2.1 rfl ?_
            refine xr_if_eq (tgt := 110) (n := 105) C dd_X9_row_3.2.2.2.2.2.2.2.2.1 rfl rfl (fun c_53 => ?_) (fun c_53 => ?_)
            · replace hE_45 := yf_t c_53 hE_45
              refine xr_iload (n := 112) (j := 0) C dd_X9_row_3.2.2.2.2.2.2.2.2.2.2.2.1 rfl rfl ?_
              refine xr_if_eq (tgt := 120) (n := 115) C dd_X9_row_3.2.2.2.2.2.2.2.2.2.2.2.2.1 rfl rfl (fun c_54 => ?_) (fun c_54 => ?_)
              · replace hE_45 := yf_t c_54 hE_45
                refine xr_bipush (n := 122) (v := 46) C dd_X9_row_3.2.2.2.2.2.2.2.2.2.2.2.2.2.2.2.1 rfl rfl ?_
                refine xr_lv (lv' := [(0, .ref g), (1, .int i1), (2, .ref q_12), (3, .int s_18.1)]) [1, 2, 3, 4] rfl ?_
                have e_55 := Option.some.inj hE_45
                subst e_55
                exact J_45
              · replace hE_45 := yf_f c_54 hE_45
                refine xr_bipush (n := 117) (v := 111) C dd_X9_row_3.2.2.2.2.2.2.2.2.2.2.2.2.2.1 rfl rfl ?_
                refine xr_goto (tgt := 122) C dd_X9_row_3.2.2.2.2.2.2.2.2.2.2.2.2.2.2.1 rfl ?_
                refine xr_lv (lv' := [(0, .ref g), (1, .int i1), (2, .ref q_12), (3, .int s_18.1)]) [1, 2, 3, 4] rfl ?_
                have e_56 := Option.some.inj hE_45
                subst e_56
                exact J_45
            · replace hE_45 := yf_f c_53 hE_45
              refine xr_bipush (n := 107) (v := 63) C dd_X9_row_3.2.2.2.2.2.2.2.2.2.1 rfl rfl ?_
              refine xr_goto (tgt := 122) C dd_X9_row_3.2.2.2.2.2.2.2.2.2.2.1 rfl ?_
              refine xr_lv (lv' := [(0, .ref g), (1, .int i1), (2, .ref q_12), (3, .int s_18.1)]) [1, 2, 3, 4] rfl ?_
              have e_57 := Option.some.inj hE_45
              subst e_57
              exact J_45
          · replace hE_45 := yf_f c_50 hE_45
            refine xr_bipush (n := 91) (v := 120) C dd_X9_row_3.1 rfl rfl ?_
            refine xr_goto (tgt := 122) C dd_X9_row_3.2.1 rfl ?_
            refine xr_lv (lv' := [(0, .ref g), (1, .int i1), (2, .ref q_12), (3, .int s_18.1)]) [1, 2, 3, 4] rfl ?_
            have e_58 := Option.some.inj hE_45
            subst e_58
            exact J_45
        refine xr_if_eq (tgt := 74) (n := 59) C dd_X9_row_1.2.2.2.2.2.2.2.2.2.2.2.2.2.2.1 rfl rfl (fun c_59 => ?_) (fun c_59 => ?_)
        · replace hE_37 := yf_t c_59 hE_37
          refine xr_iconst (n := 75) (v := 0) C dd_X9_row_2.2.2.2.2.2.2.1 rfl rfl ?_
          have e_60 := Option.some.inj hE_37
          subst e_60
          exact J_37
        · replace hE_37 := yf_f c_59 hE_37
          refine xr_aload_n (n := 60) (j := 0) C dd_X9_row_1.2.2.2.2.2.2.2.2.2.2.2.2.2.2.2.1 rfl rfl ?_
          refine xr_get (n := 63) C 0 rfl rfl 11 (by decide) in_X9 u_1248 rfl (v := .int glc) rfl dd_X9_row_2.1 rfl ?_
          refine xr_iload_n (n := 64) (j := 3) C dd_X9_row_2.2.1 rfl rfl ?_
          obtain ⟨x_61, hx_61, hE_37⟩ := yf_b hE_37
          refine xr_callSp (n := 67) (As := [.int glc, .int s_18.1]) (rest := []) C (kX9_has l D cy (i1 := glc) (i2 := s_18.1) hx_61) mX9_has u_1373 u_1374 8 [] [0, 1, 2, 3, 4, 5, 6, 7] rfl (by decide +kernel) rfl rfl rfl rfl (Nat.le_of_ble_eq_true rfl) (Nat.le_of_ble_eq_true rfl) (Nat.le_of_ble_eq_true rfl) (Nat.le_of_ble_eq_true rfl) (Nat.le_of_ble_eq_true rfl) dd_X9_row_2.2.2.1 rfl (fun _ _ hp => hp.2) (fun v_62 hp_64 => ?_)
          obtain ⟨rfl, -⟩ := hp_64
          refine xr_st (st' := [.int x_61]) rfl ?_
          refine xr_if_eq (tgt := 74) (n := 70) C dd_X9_row_2.2.2.2.1 rfl rfl (fun c_65 => ?_) (fun c_65 => ?_)
          · replace hE_37 := yf_t c_65 hE_37
            refine xr_iconst (n := 75) (v := 0) C dd_X9_row_2.2.2.2.2.2.2.1 rfl rfl ?_
            have e_66 := Option.some.inj hE_37
            subst e_66
            exact J_37
          · replace hE_37 := yf_f c_65 hE_37
            refine xr_iconst (n := 71) (v := 1) C dd_X9_row_2.2.2.2.2.1 rfl rfl ?_
            refine xr_goto (tgt := 75) C dd_X9_row_2.2.2.2.2.2.1 rfl ?_
            have e_67 := Option.some.inj hE_37
            subst e_67
            exact J_37
    · replace hR := yf_f c_11 hR
      refine xr_ldcws (n := 25) (tx := "") C (by decide +kernel) dd_X9_row_0.2.2.2.2.2.2.2.2.2.2.2.2.1 rfl (fun q_68 => ?_)
      obtain rfl := Option.some.inj hR
      exact ret q_68 (Or.inr ⟨_, rfl, q_68, rfl, rfl⟩) (Nat.le_of_ble_eq_true rfl) (Nat.le_of_ble_eq_true rfl) dd_X9_row_0.2.2.2.2.2.2.2.2.2.2.2.2.2.1
  refine xr_if_ne (tgt := 14) (n := 10) C dd_X9_row_0.2.2.2.2.2.1 rfl rfl (fun c_69 => ?_) (fun c_69 => ?_)
  · replace hE_6 := yf_f c_69 hE_6
    refine xr_iconst (n := 15) (v := 0) C dd_X9_row_0.2.2.2.2.2.2.2.2.1 rfl rfl ?_
    have e_70 := Option.some.inj hE_6
    subst e_70
    exact J_6
  · replace hE_6 := yf_t c_69 hE_6
    refine xr_iconst (n := 11) (v := 1) C dd_X9_row_0.2.2.2.2.2.2.1 rfl rfl ?_
    refine xr_goto (tgt := 15) C dd_X9_row_0.2.2.2.2.2.2.2.1 rfl ?_
    have e_71 := Option.some.inj hE_6
    subst e_71
    exact J_6
