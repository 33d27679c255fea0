theorem u_1564 : Cond.methodLink RX9 269 yX9_bestTold ∈ yU := yu_tables_1_7 68 (by decide +kernel) (by decide +kernel)
theorem u_1566 : Cond.instanceMethod yX9_bestTold ∈ yU := yu_tables_1_7 70 (by decide +kernel) (by decide +kernel)
theorem u_52 : Cond.selects RX9 yX9_bestTold yX9_bestTold ∈ yU := yu 52 (by decide +kernel) (by decide +kernel)
theorem u_1563 : Cond.code yX9_best cX9_best 2 (some .int) ∈ yU := yu_tables_1_7 67 (by decide +kernel) (by decide +kernel)
theorem u_1575 : Cond.code yX9_savedNow cX9_savedNow 1 (some .int) ∈ yU := yu_tables_1_7 79 (by decide +kernel) (by decide +kernel)
theorem u_1572 : Cond.methodLink RX9 272 yX9_savedNow ∈ yU := yu_tables_1_7 76 (by decide +kernel) (by decide +kernel)
theorem u_1574 : Cond.instanceMethod yX9_savedNow ∈ yU := yu_tables_1_7 78 (by decide +kernel) (by decide +kernel)
theorem u_53 : Cond.selects RX9 yX9_savedNow yX9_savedNow ∈ yU := yu 53 (by decide +kernel) (by decide +kernel)
theorem u_1571 : Cond.code yX9_saved cX9_saved 1 (some .int) ∈ yU := yu_tables_1_7 75 (by decide +kernel) (by decide +kernel)
theorem dX9_best_0 : decode cX9_best 0 = .ok (.aload_n 0, 1) := by decide +kernel
theorem dX9_best_1 : decode cX9_best 1 = .ok (.iload_n 1, 1) := by decide +kernel
theorem dX9_best_2 : decode cX9_best 2 = .ok (.iconst 0, 1) := by decide +kernel
theorem dX9_best_3 : decode cX9_best 3 = .ok (.iconst 4, 1) := by decide +kernel
theorem dX9_best_4 : decode cX9_best 4 = .ok (.invokestatic 75, 3) := by decide +kernel
theorem dX9_best_7 : decode cX9_best 7 = .ok (.ifCond .ne 7, 3) := by decide +kernel
theorem dX9_best_10 : decode cX9_best 10 = .ok (.iconst 1, 1) := by decide +kernel
theorem dX9_best_11 : decode cX9_best 11 = .ok (.goto 4, 3) := by decide +kernel
theorem dX9_best_14 : decode cX9_best 14 = .ok (.iconst 0, 1) := by decide +kernel
theorem dX9_best_15 : decode cX9_best 15 = .ok (.iconst 1, 1) := by decide +kernel
theorem dX9_best_16 : decode cX9_best 16 = .ok (.invokevirtual 79, 3) := by decide +kernel
theorem dX9_best_19 : decode cX9_best 19 = .ok (.ifCond .eq 7, 3) := by decide +kernel
theorem dX9_best_22 : decode cX9_best 22 = .ok (.iconst 0, 1) := by decide +kernel
theorem dX9_best_23 : decode cX9_best 23 = .ok (.goto 8, 3) := by decide +kernel
theorem dX9_best_26 : decode cX9_best 26 = .ok (.aload_n 0, 1) := by decide +kernel
theorem dX9_best_27 : decode cX9_best 27 = .ok (.iload_n 1, 1) := by decide +kernel
theorem dX9_best_28 : decode cX9_best 28 = .ok (.invokevirtual 269, 3) := by decide +kernel
theorem dX9_best_31 : decode cX9_best 31 = .ok (.ireturn, 1) := by decide +kernel
def fX9_best_i (gwr : Int32) (gwk : Int32) (gwc : Int32) (gwg : Int32) (gws : Int32) (gwan : Nat) (gwak : Nat) (gwaG : Nat → Nat → Int32) (gwbn : Nat) (gwbk : Nat) (gwbG : Nat → Nat → Int32) (gKG : Nat → Nat → Int32) (i1 : Int32) : Option (Int32 × Int32) := ((fX9_isIn i1 0 4).bind fun x_1 => ((((if x_1 = 0 then some 1 else some 0) : Option (Int32))).bind fun r_6 => ((fX9_start_i r_6 1).bind fun x_7 => (if x_7.1 = 0 then ((fX9_bestTold_i gwr gwk gwc gwg gws gwan gwak gwaG gwbn gwbk gwbG gKG i1).bind fun x_12 => some (x_12, x_7.2)) else some (0, x_7.2)))))
abbrev hX9_best : Cond := .code yX9_best cX9_best 2 (some .int)
theorem mX9_best : yM yX9_best hX9_best 1 := ⟨u_1563, u_64, by decide +kernel, by decide +kernel, by decide +kernel⟩
set_option maxHeartbeats 4000000 in
set_option maxRecDepth 100000 in
theorem kX9_best_i (l : Launch) (D : va_G) (cy : Nat → ClassId) (g : Nat) (gth : Int32) (gw : Nat) (gB : Nat) (gK : Nat) (gU : Nat) (gS : Nat) (gbe : Int32) (gwo : Int32) (gta : Int64) (glr : Int32) (glc : Int32) (gti : Int32) (ggo : Int32) (gR : Nat) (gch : Int32) (gD : Nat) (gwr : Int32) (gwk : Int32) (gwc : Int32) (gwg : Int32) (gws : Int32) (gwa : Nat) (gwb : Nat) (gwad : Nat → Nat) (gwan : Nat) (gwak : Nat) (gwaG : Nat → Nat → Int32) (gwbd : Nat → Nat) (gwbn : Nat) (gwbk : Nat) (gwbG : Nat → Nat → Int32) (gKd : Nat → Nat) (gKG : Nat → Nat → Int32) (i1 : Int32) {res : Int32 × Int32} (hR : fX9_best_i gwr gwk gwc gwg gws gwan gwak gwaG gwbn gwbk gwbG gKG i1 = some res) : YM l D cy yX9_best hX9_best 6 30 60 [.ref g, .int i1] [[(g, .inr (11, [.int gth, .ref gw, .ref gB, .ref gK, .ref gU, .ref gS, .int gbe, .int gwo, .long gta, .null, .int glr, .int glc, .int gti, .int ggo, .ref gR, .int gch, .ref gD]))], [(gw, .inr (10, [.int gwr, .int gwk, .int gwc, .int gwg, .int gws, .ref gwa, .ref gwb]))], [(gwa, .inl (cy 3, gwan, .inr (.inr (.inr (.inr (yad gwad))))))], xg_rows gwad gwan (cy 1) gwak gwaG, [(gwb, .inl (cy 3, gwbn, .inr (.inr (.inr (.inr (yad gwbd))))))], xg_rows gwbd gwbn (cy 1) gwbk gwbG, [(gK, .inl (cy 4, 5, .inr (.inr (.inr (.inr (yad gKd))))))], xg_rows gKd 5 (cy 2) 5 gKG] (fun v u => v = some (.int res.1) ∧ u = [[(g, .inr (11, [.int res.2, .ref gw, .ref gB, .ref gK, .ref gU, .ref gS, .int gbe, .int gwo, .long gta, .null, .int glr, .int glc, .int gti, .int ggo, .ref gR, .int gch, .ref gD]))], [(gw, .inr (10, [.int gwr, .int gwk, .int gwc, .int gwg, .int gws, .ref gwa, .ref gwb]))], [(gwa, .inl (cy 3, gwan, .inr (.inr (.inr (.inr (yad gwad))))))], xg_rows gwad gwan (cy 1) gwak gwaG, [(gwb, .inl (cy 3, gwbn, .inr (.inr (.inr (.inr (yad gwbd))))))], xg_rows gwbd gwbn (cy 1) gwbk gwbG, [(gK, .inl (cy 4, 5, .inr (.inr (.inr (.inr (yad gKd))))))], xg_rows gKd 5 (cy 2) 5 gKG]) := by
  unfold fX9_best_i at hR
  refine YM.ofI (cc := cX9_best) (maxL := 2) (ret := (some .int)) (by decide +kernel) rfl (Nat.le_of_ble_eq_true rfl) [(0, .ref g), (1, .int i1)] rfl rfl (fun p e s m args below meth c A H0 Q C hnm ret => ?_)
  refine xr_aload_n (n := 1) (j := 0) C dX9_best_0 rfl rfl ?_
  refine xr_iload_n (n := 2) (j := 1) C dX9_best_1 rfl rfl ?_
  refine xr_iconst (n := 3) (v := 0) C dX9_best_2 rfl rfl ?_
  refine xr_iconst (n := 4) (v := 4) C dX9_best_3 rfl rfl ?_
  obtain ⟨x_1, hx_1, hR⟩ := yf_b hR
  refine xr_callSp (n := 7) (As := [.int i1, .int 0, .int 4]) (rest := [.ref g]) C (kX9_isIn l D cy (i1 := i1) (i2 := 0) (i3 := 4) hx_1) mX9_isIn u_1298 u_1299 8 [] [0, 1, 2, 3, 4, 5, 6, 7] rfl (by decide +kernel) rfl rfl rfl rfl (Nat.le_of_ble_eq_true rfl) (Nat.le_of_ble_eq_true rfl) (Nat.le_of_ble_eq_true rfl) (Nat.le_of_ble_eq_true rfl) (Nat.le_of_ble_eq_true rfl) dX9_best_4 rfl (fun _ _ hp => hp.2) (fun v_2 hp_4 => ?_)
  obtain ⟨rfl, -⟩ := hp_4
  refine xr_st (st' := [.int x_1, .ref g]) rfl ?_
  obtain ⟨r_6, hE_6, hR⟩ := yf_b hR
  have J_6 : X p l e (yR 6 30 60) s m args below meth c D A H0 2 Q [[(g, .inr (11, [.int gth, .ref gw, .ref gB, .ref gK, .ref gU, .ref gS, .int gbe, .int gwo, .long gta, .null, .int glr, .int glc, .int gti, .int ggo, .ref gR, .int gch, .ref gD]))], [(gw, .inr (10, [.int gwr, .int gwk, .int gwc, .int gwg, .int gws, .ref gwa, .ref gwb]))], [(gwa, .inl (cy 3, gwan, .inr (.inr (.inr (.inr (yad gwad))))))], xg_rows gwad gwan (cy 1) gwak gwaG, [(gwb, .inl (cy 3, gwbn, .inr (.inr (.inr (.inr (yad gwbd))))))], xg_rows gwbd gwbn (cy 1) gwbk gwbG, [(gK, .inl (cy 4, 5, .inr (.inr (.inr (.inr (yad gKd))))))], xg_rows gKd 5 (cy 2) 5 gKG] 0 0 [(0, .ref g), (1, .int i1)] 15 [.int r_6, .ref g] := by
    refine xr_iconst (n := 16) (v := 1) C dX9_best_15 rfl rfl ?_
    obtain ⟨x_7, hx_7, hR⟩ := yf_b hR
    refine xr_callV (n := 19) (As := [.int r_6, .int 1]) (rest := []) C (kX9_start_i l D cy (g := g) (gth := gth) (gw := gw) (gB := gB) (gK := gK) (gU := gU) (gS := gS) (gbe := gbe) (gwo := gwo) (gta := gta) (glr := glr) (glc := glc) (gti := gti) (ggo := ggo) (gR := gR) (gch := gch) (gD := gD) (i1 := r_6) (i2 := 1) hx_7) mX9_start u_1301 u_1303 u_29 0 rfl rfl 8 [0] [1, 2, 3, 4, 5, 6, 7] rfl (by decide +kernel) rfl rfl rfl rfl (Nat.le_of_ble_eq_true rfl) (Nat.le_of_ble_eq_true rfl) (Nat.le_of_ble_eq_true rfl) (Nat.le_of_ble_eq_true rfl) (Nat.le_of_ble_eq_true rfl) dX9_best_16 rfl (fun v_8 u_9 hp_10 => ?_)
    obtain ⟨rfl, rfl⟩ := hp_10
    refine xr_perm C 8 [0, 1, 2, 3, 4, 5, 6, 7] [] [[(g, .inr (11, [.int x_7.2, .ref gw, .ref gB, .ref gK, .ref gU, .ref gS, .int gbe, .int gwo, .long gta, .null, .int glr, .int glc, .int gti, .int ggo, .ref gR, .int gch, .ref gD]))], [(gw, .inr (10, [.int gwr, .int gwk, .int gwc, .int gwg, .int gws, .ref gwa, .ref gwb]))], [(gwa, .inl (cy 3, gwan, .inr (.inr (.inr (.inr (yad gwad))))))], xg_rows gwad gwan (cy 1) gwak gwaG, [(gwb, .inl (cy 3, gwbn, .inr (.inr (.inr (.inr (yad gwbd))))))], xg_rows gwbd gwbn (cy 1) gwbk gwbG, [(gK, .inl (cy 4, 5, .inr (.inr (.inr (.inr (yad gKd))))))], xg_rows gKd 5 (cy 2) 5 gKG] rfl (by decide +kernel) rfl ?_
    refine xr_st (st' := [.int x_7.1]) rfl ?_
    refine xr_if_eq (tgt := 26) (n := 22) C dX9_best_19 rfl rfl (fun c_11 => ?_) (fun c_11 => ?_)
    · replace hR := yf_t c_11 hR
      refine xr_aload_n (n := 27) (j := 0) C dX9_best_26 rfl rfl ?_
      refine xr_iload_n (n := 28) (j := 1) C dX9_best_27 rfl rfl ?_
      obtain ⟨x_12, hx_12, hR⟩ := yf_b hR
      refine xr_callVp (n := 31) (As := [.int i1]) (rest := []) C (kX9_bestTold_i l D cy (g := g) (gth := x_7.2) (gw := gw) (gB := gB) (gK := gK) (gU := gU) (gS := gS) (gbe := gbe) (gwo := gwo) (gta := gta) (glr := glr) (glc := glc) (gti := gti) (ggo := ggo) (gR := gR) (gch := gch) (gD := gD) (gwr := gwr) (gwk := gwk) (gwc := gwc) (gwg := gwg) (gws := gws) (gwa := gwa) (gwb := gwb) (gwad := gwad) (gwan := gwan) (gwak := gwak) (gwaG := gwaG) (gwbd := gwbd) (gwbn := gwbn) (gwbk := gwbk) (gwbG := gwbG) (gKd := gKd) (gKG := gKG) (i1 := i1) hx_12) mX9_bestTold u_1564 u_1566 u_52 0 rfl rfl 8 [0, 1, 2, 3, 4, 5, 6, 7] [] rfl (by decide +kernel) rfl rfl rfl rfl (Nat.le_of_ble_eq_true rfl) (Nat.le_of_ble_eq_true rfl) (Nat.le_of_ble_eq_true rfl) (Nat.le_of_ble_eq_true rfl) (Nat.le_of_ble_eq_true rfl) dX9_best_28 rfl (fun _ _ hp => hp.2) (fun v_13 hp_15 => ?_)
      obtain ⟨rfl, -⟩ := hp_15
      refine xr_st (st' := [.int x_12]) rfl ?_
      obtain rfl := Option.some.inj hR
      exact ret x_12 ⟨rfl, rfl⟩ (Nat.le_of_ble_eq_true rfl) (Nat.le_of_ble_eq_true rfl) dX9_best_31
    · replace hR := yf_f c_11 hR
      refine xr_iconst (n := 23) (v := 0) C dX9_best_22 rfl rfl ?_
      refine xr_goto (tgt := 31) C dX9_best_23 rfl ?_
      obtain rfl := Option.some.inj hR
      exact ret 0 ⟨rfl, rfl⟩ (Nat.le_of_ble_eq_true rfl) (Nat.le_of_ble_eq_true rfl) dX9_best_31
  refine xr_if_ne (tgt := 14) (n := 10) C dX9_best_7 rfl rfl (fun c_16 => ?_) (fun c_16 => ?_)
  · replace hE_6 := yf_f c_16 hE_6
    refine xr_iconst (n := 15) (v := 0) C dX9_best_14 rfl rfl ?_
    have e_17 := Option.some.inj hE_6
    subst e_17
    exact J_6
  · replace hE_6 := yf_t c_16 hE_6
    refine xr_iconst (n := 11) (v := 1) C dX9_best_10 rfl rfl ?_
    refine xr_goto (tgt := 15) C dX9_best_11 rfl ?_
    have e_18 := Option.some.inj hE_6
    subst e_18
    exact J_6
def fX9_best_r (gwr : Int32) (gwk : Int32) (gwc : Int32) (gwg : Int32) (gws : Int32) (gwan : Nat) (gwak : Nat) (gwaG : Nat → Nat → Int32) (gwbn : Nat) (gwbk : Nat) (gwbG : Nat → Nat → Int32) (gKG : Nat → Nat → Int32) (i1 : Int32) : Option (Int32 × Int32) := ((fX9_isIn i1 0 4).bind fun x_1 => ((((if x_1 = 0 then some 1 else some 0) : Option (Int32))).bind fun r_6 => ((fX9_start_r r_6 1).bind fun x_7 => (if x_7.1 = 0 then ((fX9_bestTold_r gwr gwk gwc gwg gws gwan gwak gwaG gwbn gwbk gwbG gKG i1).bind fun x_12 => some (x_12, x_7.2)) else some (0, x_7.2)))))
set_option maxHeartbeats 4000000 in
set_option maxRecDepth 100000 in
theorem kX9_best_r (l : Launch) (D : va_G) (cy : Nat → ClassId) (g : Nat) (gth : Int32) (gw : Nat) (gB : Nat) (gK : Nat) (gU : Nat) (gS : Nat) (gbe : Int32) (gwo : Int32) (gta : Int64) (gn : Nat) (glr : Int32) (glc : Int32) (gti : Int32) (ggo : Int32) (gR : Nat) (gch : Int32) (gD : Nat) (gwr : Int32) (gwk : Int32) (gwc : Int32) (gwg : Int32) (gws : Int32) (gwa : Nat) (gwb : Nat) (gwad : Nat → Nat) (gwan : Nat) (gwak : Nat) (gwaG : Nat → Nat → Int32) (gwbd : Nat → Nat) (gwbn : Nat) (gwbk : Nat) (gwbG : Nat → Nat → Int32) (gKd : Nat → Nat) (gKG : Nat → Nat → Int32) (i1 : Int32) {res : Int32 × Int32} (hR : fX9_best_r gwr gwk gwc gwg gws gwan gwak gwaG gwbn gwbk gwbG gKG i1 = some res) : YM l D cy yX9_best hX9_best 6 30 60 [.ref g, .int i1] [[(g, .inr (11, [.int gth, .ref gw, .ref gB, .ref gK, .ref gU, .ref gS, .int gbe, .int gwo, .long gta, .ref gn, .int glr, .int glc, .int gti, .int ggo, .ref gR, .int gch, .ref gD]))], [(gw, .inr (10, [.int gwr, .int gwk, .int gwc, .int gwg, .int gws, .ref gwa, .ref gwb]))], [(gwa, .inl (cy 3, gwan, .inr (.inr (.inr (.inr (yad gwad))))))], xg_rows gwad gwan (cy 1) gwak gwaG, [(gwb, .inl (cy 3, gwbn, .inr (.inr (.inr (.inr (yad gwbd))))))], xg_rows gwbd gwbn (cy 1) gwbk gwbG, [(gK, .inl (cy 4, 5, .inr (.inr (.inr (.inr (yad gKd))))))], xg_rows gKd 5 (cy 2) 5 gKG] (fun v u => v = some (.int res.1) ∧ u = [[(g, .inr (11, [.int res.2, .ref gw, .ref gB, .ref gK, .ref gU, .ref gS, .int gbe, .int gwo, .long gta, .ref gn, .int glr, .int glc, .int gti, .int ggo, .ref gR, .int gch, .ref gD]))], [(gw, .inr (10, [.int gwr, .int gwk, .int gwc, .int gwg, .int gws, .ref gwa, .ref gwb]))], [(gwa, .inl (cy 3, gwan, .inr (.inr (.inr (.inr (yad gwad))))))], xg_rows gwad gwan (cy 1) gwak gwaG, [(gwb, .inl (cy 3, gwbn, .inr (.inr (.inr (.inr (yad gwbd))))))], xg_rows gwbd gwbn (cy 1) gwbk gwbG, [(gK, .inl (cy 4, 5, .inr (.inr (.inr (.inr (yad gKd))))))], xg_rows gKd 5 (cy 2) 5 gKG]) := by
  unfold fX9_best_r at hR
  refine YM.ofI (cc := cX9_best) (maxL := 2) (ret := (some .int)) (by decide +kernel) rfl (Nat.le_of_ble_eq_true rfl) [(0, .ref g), (1, .int i1)] rfl rfl (fun p e s m args below meth c A H0 Q C hnm ret => ?_)
  refine xr_aload_n (n := 1) (j := 0) C dX9_best_0 rfl rfl ?_
  refine xr_iload_n (n := 2) (j := 1) C dX9_best_1 rfl rfl ?_
  refine xr_iconst (n := 3) (v := 0) C dX9_best_2 rfl rfl ?_
  refine xr_iconst (n := 4) (v := 4) C dX9_best_3 rfl rfl ?_
  obtain ⟨x_1, hx_1, hR⟩ := yf_b hR
  refine xr_callSp (n := 7) (As := [.int i1, .int 0, .int 4]) (rest := [.ref g]) C (kX9_isIn l D cy (i1 := i1) (i2 := 0) (i3 := 4) hx_1) mX9_isIn u_1298 u_1299 8 [] [0, 1, 2, 3, 4, 5, 6, 7] rfl (by decide +kernel) rfl rfl rfl rfl (Nat.le_of_ble_eq_true rfl) (Nat.le_of_ble_eq_true rfl) (Nat.le_of_ble_eq_true rfl) (Nat.le_of_ble_eq_true rfl) (Nat.le_of_ble_eq_true rfl) dX9_best_4 rfl (fun _ _ hp => hp.2) (fun v_2 hp_4 => ?_)
  obtain ⟨rfl, -⟩ := hp_4
  refine xr_st (st' := [.int x_1, .ref g]) rfl ?_
  obtain ⟨r_6, hE_6, hR⟩ := yf_b hR
  have J_6 : X p l e (yR 6 30 60) s m args below meth c D A H0 2 Q [[(g, .inr (11, [.int gth, .ref gw, .ref gB, .ref gK, .ref gU, .ref gS, .int gbe, .int gwo, .long gta, .ref gn, .int glr, .int glc, .int gti, .int ggo, .ref gR, .int gch, .ref gD]))], [(gw, .inr (10, [.int gwr, .int gwk, .int gwc, .int gwg, .int gws, .ref gwa, .ref gwb]))], [(gwa, .inl (cy 3, gwan, .inr (.inr (.inr (.inr (yad gwad))))))], xg_rows gwad gwan (cy 1) gwak gwaG, [(gwb, .inl (cy 3, gwbn, .inr (.inr (.inr (.inr (yad gwbd))))))], xg_rows gwbd gwbn (cy 1) gwbk gwbG, [(gK, .inl (cy 4, 5, .inr (.inr (.inr (.inr (yad gKd))))))], xg_rows gKd 5 (cy 2) 5 gKG] 0 0 [(0, .ref g), (1, .int i1)] 15 [.int r_6, .ref g] := by
    refine xr_iconst (n := 16) (v := 1) C dX9_best_15 rfl rfl ?_
    obtain ⟨x_7, hx_7, hR⟩ := yf_b hR
    refine xr_callV (n := 19) (As := [.int r_6, .int 1]) (rest := []) C (kX9_start_r l D cy (g := g) (gth := gth) (gw := gw) (gB := gB) (gK := gK) (gU := gU) (gS := gS) (gbe := gbe) (gwo := gwo) (gta := gta) (gn := gn) (glr := glr) (glc := glc) (gti := gti) (ggo := ggo) (gR := gR) (gch := gch) (gD := gD) (i1 := r_6) (i2 := 1) hx_7) mX9_start u_1301 u_1303 u_29 0 rfl rfl 8 [0] [1, 2, 3, 4, 5, 6, 7] rfl (by decide +kernel) rfl rfl rfl rfl (Nat.le_of_ble_eq_true rfl) (Nat.le_of_ble_eq_true rfl) (Nat.le_of_ble_eq_true rfl) (Nat.le_of_ble_eq_true rfl) (Nat.le_of_ble_eq_true rfl) dX9_best_16 rfl (fun v_8 u_9 hp_10 => ?_)
    obtain ⟨rfl, rfl⟩ := hp_10
    refine xr_perm C 8 [0, 1, 2, 3, 4, 5, 6, 7] [] [[(g, .inr (11, [.int x_7.2, .ref gw, .ref gB, .ref gK, .ref gU, .ref gS, .int gbe, .int gwo, .long gta, .ref gn, .int glr, .int glc, .int gti, .int ggo, .ref gR, .int gch, .ref gD]))], [(gw, .inr (10, [.int gwr, .int gwk, .int gwc, .int gwg, .int gws, .ref gwa, .ref gwb]))], [(gwa, .inl (cy 3, gwan, .inr (.inr (.inr (.inr (yad gwad))))))], xg_rows gwad gwan (cy 1) gwak gwaG, [(gwb, .inl (cy 3, gwbn, .inr (.inr (.inr (.inr (yad gwbd))))))], xg_rows gwbd gwbn (cy 1) gwbk gwbG, [(gK, .inl (cy 4, 5, .inr (.inr (.inr (.inr (yad gKd))))))], xg_rows gKd 5 (cy 2) 5 gKG] rfl (by decide +kernel) rfl ?_
    refine xr_st (st' := [.int x_7.1]) rfl ?_
    refine xr_if_eq (tgt := 26) (n := 22) C dX9_best_19 rfl rfl (fun c_11 => ?_) (fun c_11 => ?_)
    · replace hR := yf_t c_11 hR
      refine xr_aload_n (n := 27) (j := 0) C dX9_best_26 rfl rfl ?_
      refine xr_iload_n (n := 28) (j := 1) C dX9_best_27 rfl rfl ?_
      obtain ⟨x_12, hx_12, hR⟩ := yf_b hR
      refine xr_callVp (n := 31) (As := [.int i1]) (rest := []) C (kX9_bestTold_r l D cy (g := g) (gth := x_7.2) (gw := gw) (gB := gB) (gK := gK) (gU := gU) (gS := gS) (gbe := gbe) (gwo := gwo) (gta := gta) (gn := gn) (glr := glr) (glc := glc) (gti := gti) (ggo := ggo) (gR := gR) (gch := gch) (gD := gD) (gwr := gwr) (gwk := gwk) (gwc := gwc) (gwg := gwg) (gws := gws) (gwa := gwa) (gwb := gwb) (gwad := gwad) (gwan := gwan) (gwak := gwak) (gwaG := gwaG) (gwbd := gwbd) (gwbn := gwbn) (gwbk := gwbk) (gwbG := gwbG) (gKd := gKd) (gKG := gKG) (i1 := i1) hx_12) mX9_bestTold u_1564 u_1566 u_52 0 rfl rfl 8 [0, 1, 2, 3, 4, 5, 6, 7] [] rfl (by decide +kernel) rfl rfl rfl rfl (Nat.le_of_ble_eq_true rfl) (Nat.le_of_ble_eq_true rfl) (Nat.le_of_ble_eq_true rfl) (Nat.le_of_ble_eq_true rfl) (Nat.le_of_ble_eq_true rfl) dX9_best_28 rfl (fun _ _ hp => hp.2) (fun v_13 hp_15 => ?_)
      obtain ⟨rfl, -⟩ := hp_15
      refine xr_st (st' := [.int x_12]) rfl ?_
      obtain rfl := Option.some.inj hR
      exact ret x_12 ⟨rfl, rfl⟩ (Nat.le_of_ble_eq_true rfl) (Nat.le_of_ble_eq_true rfl) dX9_best_31
    · replace hR := yf_f c_11 hR
      refine xr_iconst (n := 23) (v := 0) C dX9_best_22 rfl rfl ?_
      refine xr_goto (tgt := 31) C dX9_best_23 rfl ?_
      obtain rfl := Option.some.inj hR
      exact ret 0 ⟨rfl, rfl⟩ (Nat.le_of_ble_eq_true rfl) (Nat.le_of_ble_eq_true rfl) dX9_best_31
  refine xr_if_ne (tgt := 14) (n := 10) C dX9_best_7 rfl rfl (fun c_16 => ?_) (fun c_16 => ?_)
  · replace hE_6 := yf_f c_16 hE_6
    refine xr_iconst (n := 15) (v := 0) C dX9_best_14 rfl rfl ?_
    have e_17 := Option.some.inj hE_6
    subst e_17
    exact J_6
  · replace hE_6 := yf_t c_16 hE_6
    refine xr_iconst (n := 11) (v := 1) C dX9_best_10 rfl rfl ?_
    refine xr_goto (tgt := 15) C dX9_best_11 rfl ?_
    have e_18 := Option.some.inj hE_6
    subst e_18
    exact J_6
theorem dX9_savedNow_0 : decode cX9_savedNow 0 = .ok (.aload_n 0, 1) := by decide +kernel
theorem dX9_savedNow_1 : decode cX9_savedNow 1 = .ok (.iconst 3, 1) := by decide +kernel
theorem dX9_savedNow_2 : decode cX9_savedNow 2 = .ok (.invokevirtual 269, 3) := by decide +kernel
theorem dX9_savedNow_5 : decode cX9_savedNow 5 = .ok (.iconst (-1), 1) := by decide +kernel
theorem dX9_savedNow_6 : decode cX9_savedNow 6 = .ok (.if_icmp .ne 7, 3) := by decide +kernel
theorem dX9_savedNow_9 : decode cX9_savedNow 9 = .ok (.iconst 0, 1) := by decide +kernel
theorem dX9_savedNow_10 : decode cX9_savedNow 10 = .ok (.goto 24, 3) := by decide +kernel
theorem dX9_savedNow_13 : decode cX9_savedNow 13 = .ok (.aload_n 0, 1) := by decide +kernel
theorem dX9_savedNow_14 : decode cX9_savedNow 14 = .ok (.iconst 3, 1) := by decide +kernel
theorem dX9_savedNow_15 : decode cX9_savedNow 15 = .ok (.invokevirtual 269, 3) := by decide +kernel
theorem dX9_savedNow_18 : decode cX9_savedNow 18 = .ok (.aload_n 0, 1) := by decide +kernel
theorem dX9_savedNow_19 : decode cX9_savedNow 19 = .ok (.getfield 16, 3) := by decide +kernel
theorem dX9_savedNow_22 : decode cX9_savedNow 22 = .ok (.getfield 52, 3) := by decide +kernel
theorem dX9_savedNow_25 : decode cX9_savedNow 25 = .ok (.aload_n 0, 1) := by decide +kernel
theorem dX9_savedNow_26 : decode cX9_savedNow 26 = .ok (.getfield 16, 3) := by decide +kernel
theorem dX9_savedNow_29 : decode cX9_savedNow 29 = .ok (.invokevirtual 120, 3) := by decide +kernel
theorem dX9_savedNow_32 : decode cX9_savedNow 32 = .ok (.isub, 1) := by decide +kernel
theorem dX9_savedNow_33 : decode cX9_savedNow 33 = .ok (.imul, 1) := by decide +kernel
theorem dX9_savedNow_34 : decode cX9_savedNow 34 = .ok (.ireturn, 1) := by decide +kernel
def fX9_savedNow_i (gwr : Int32) (gwk : Int32) (gwc : Int32) (gwg : Int32) (gws : Int32) (gwan : Nat) (gwak : Nat) (gwaG : Nat → Nat → Int32) (gwbn : Nat) (gwbk : Nat) (gwbG : Nat → Nat → Int32) (gKG : Nat → Nat → Int32) : Option (Int32) := ((fX9_bestTold_i gwr gwk gwc gwg gws gwan gwak gwaG gwbn gwbk gwbG gKG 3).bind fun x_1 => (if x_1 = (-1) then some 0 else ((fX9_bestTold_i gwr gwk gwc gwg gws gwan gwak gwaG gwbn gwbk gwbG gKG 3).bind fun x_6 => ((fX8_steps gwk gwg gwan gwak gwaG gwbn gwbk gwbG).bind fun x_10 => some (x_6 * (gwk - x_10))))))
abbrev hX9_savedNow : Cond := .code yX9_savedNow cX9_savedNow 1 (some .int)
theorem mX9_savedNow : yM yX9_savedNow hX9_savedNow 0 := ⟨u_1575, u_64, by decide +kernel, by decide +kernel, by decide +kernel⟩
set_option maxHeartbeats 4000000 in
set_option maxRecDepth 100000 in
theorem kX9_savedNow_i (l : Launch) (D : va_G) (cy : Nat → ClassId) (g : Nat) (gth : Int32) (gw : Nat) (gB : Nat) (gK : Nat) (gU : Nat) (gS : Nat) (gbe : Int32) (gwo : Int32) (gta : Int64) (glr : Int32) (glc : Int32) (gti : Int32) (ggo : Int32) (gR : Nat) (gch : Int32) (gD : Nat) (gwr : Int32) (gwk : Int32) (gwc : Int32) (gwg : Int32) (gws : Int32) (gwa : Nat) (gwb : Nat) (gwad : Nat → Nat) (gwan : Nat) (gwak : Nat) (gwaG : Nat → Nat → Int32) (gwbd : Nat → Nat) (gwbn : Nat) (gwbk : Nat) (gwbG : Nat → Nat → Int32) (gKd : Nat → Nat) (gKG : Nat → Nat → Int32) {res : Int32} (hR : fX9_savedNow_i gwr gwk gwc gwg gws gwan gwak gwaG gwbn gwbk gwbG gKG = some res) : YM l D cy yX9_savedNow hX9_savedNow 6 60 120 [.ref g] [[(g, .inr (11, [.int gth, .ref gw, .ref gB, .ref gK, .ref gU, .ref gS, .int gbe, .int gwo, .long gta, .null, .int glr, .int glc, .int gti, .int ggo, .ref gR, .int gch, .ref gD]))], [(gw, .inr (10, [.int gwr, .int gwk, .int gwc, .int gwg, .int gws, .ref gwa, .ref gwb]))], [(gwa, .inl (cy 3, gwan, .inr (.inr (.inr (.inr (yad gwad))))))], xg_rows gwad gwan (cy 1) gwak gwaG, [(gwb, .inl (cy 3, gwbn, .inr (.inr (.inr (.inr (yad gwbd))))))], xg_rows gwbd gwbn (cy 1) gwbk gwbG, [(gK, .inl (cy 4, 5, .inr (.inr (.inr (.inr (yad gKd))))))], xg_rows gKd 5 (cy 2) 5 gKG] (fun v u => v = some (.int res) ∧ u = [[(g, .inr (11, [.int gth, .ref gw, .ref gB, .ref gK, .ref gU, .ref gS, .int gbe, .int gwo, .long gta, .null, .int glr, .int glc, .int gti, .int ggo, .ref gR, .int gch, .ref gD]))], [(gw, .inr (10, [.int gwr, .int gwk, .int gwc, .int gwg, .int gws, .ref gwa, .ref gwb]))], [(gwa, .inl (cy 3, gwan, .inr (.inr (.inr (.inr (yad gwad))))))], xg_rows gwad gwan (cy 1) gwak gwaG, [(gwb, .inl (cy 3, gwbn, .inr (.inr (.inr (.inr (yad gwbd))))))], xg_rows gwbd gwbn (cy 1) gwbk gwbG, [(gK, .inl (cy 4, 5, .inr (.inr (.inr (.inr (yad gKd))))))], xg_rows gKd 5 (cy 2) 5 gKG]) := by
  unfold fX9_savedNow_i at hR
  refine YM.ofI (cc := cX9_savedNow) (maxL := 1) (ret := (some .int)) (by decide +kernel) rfl (Nat.le_of_ble_eq_true rfl) [(0, .ref g)] rfl rfl (fun p e s m args below meth c A H0 Q C hnm ret => ?_)
  refine xr_aload_n (n := 1) (j := 0) C dX9_savedNow_0 rfl rfl ?_
  refine xr_iconst (n := 2) (v := 3) C dX9_savedNow_1 rfl rfl ?_
  obtain ⟨x_1, hx_1, hR⟩ := yf_b hR
  refine xr_callVp (n := 5) (As := [.int 3]) (rest := []) C (kX9_bestTold_i l D cy (g := g) (gth := gth) (gw := gw) (gB := gB) (gK := gK) (gU := gU) (gS := gS) (gbe := gbe) (gwo := gwo) (gta := gta) (glr := glr) (glc := glc) (gti := gti) (ggo := ggo) (gR := gR) (gch := gch) (gD := gD) (gwr := gwr) (gwk := gwk) (gwc := gwc) (gwg := gwg) (gws := gws) (gwa := gwa) (gwb := gwb) (gwad := gwad) (gwan := gwan) (gwak := gwak) (gwaG := gwaG) (gwbd := gwbd) (gwbn := gwbn) (gwbk := gwbk) (gwbG := gwbG) (gKd := gKd) (gKG := gKG) (i1 := 3) hx_1) mX9_bestTold u_1564 u_1566 u_52 0 rfl rfl 8 [0, 1, 2, 3, 4, 5, 6, 7] [] rfl (by decide +kernel) rfl rfl rfl rfl (Nat.le_of_ble_eq_true rfl) (Nat.le_of_ble_eq_true rfl) (Nat.le_of_ble_eq_true rfl) (Nat.le_of_ble_eq_true rfl) (Nat.le_of_ble_eq_true rfl) dX9_savedNow_2 rfl (fun _ _ hp => hp.2) (fun v_2 hp_4 => ?_)
  obtain ⟨rfl, -⟩ := hp_4
  refine xr_st (st' := [.int x_1]) rfl ?_
  refine xr_iconst (n := 6) (v := -1) C dX9_savedNow_5 rfl rfl ?_
  refine xr_icmp_ne (tgt := 13) (n := 9) C dX9_savedNow_6 rfl rfl (fun c_5 => ?_) (fun c_5 => ?_)
  · replace hR := yf_f c_5 hR
    refine xr_aload_n (n := 14) (j := 0) C dX9_savedNow_13 rfl rfl ?_
    refine xr_iconst (n := 15) (v := 3) C dX9_savedNow_14 rfl rfl ?_
    obtain ⟨x_6, hx_6, hR⟩ := yf_b hR
    refine xr_callVp (n := 18) (As := [.int 3]) (rest := []) C (kX9_bestTold_i l D cy (g := g) (gth := gth) (gw := gw) (gB := gB) (gK := gK) (gU := gU) (gS := gS) (gbe := gbe) (gwo := gwo) (gta := gta) (glr := glr) (glc := glc) (gti := gti) (ggo := ggo) (gR := gR) (gch := gch) (gD := gD) (gwr := gwr) (gwk := gwk) (gwc := gwc) (gwg := gwg) (gws := gws) (gwa := gwa) (gwb := gwb) (gwad := gwad) (gwan := gwan) (gwak := gwak) (gwaG := gwaG) (gwbd := gwbd) (gwbn := gwbn) (gwbk := gwbk) (gwbG := gwbG) (gKd := gKd) (gKG := gKG) (i1 := 3) hx_6) mX9_bestTold u_1564 u_1566 u_52 0 rfl rfl 8 [0, 1, 2, 3, 4, 5, 6, 7] [] rfl (by decide +kernel) rfl rfl rfl rfl (Nat.le_of_ble_eq_true rfl) (Nat.le_of_ble_eq_true rfl) (Nat.le_of_ble_eq_true rfl) (Nat.le_of_ble_eq_true rfl) (Nat.le_of_ble_eq_true rfl) dX9_savedNow_15 rfl (fun _ _ hp => hp.2) (fun v_7 hp_9 => ?_)
    obtain ⟨rfl, -⟩ := hp_9
    refine xr_st (st' := [.int x_6]) rfl ?_
    refine xr_aload_n (n := 19) (j := 0) C dX9_savedNow_18 rfl rfl ?_
    refine xr_get (n := 22) C 0 rfl rfl 1 (by decide) in_X9 u_1238 rfl (v := .ref gw) rfl dX9_savedNow_19 rfl ?_
    refine xr_get (n := 25) C 1 rfl rfl 1 (by decide) in_X8 u_1202 rfl (v := .int gwk) rfl dX9_savedNow_22 rfl ?_
    refine xr_aload_n (n := 26) (j := 0) C dX9_savedNow_25 rfl rfl ?_
    refine xr_get (n := 29) C 0 rfl rfl 1 (by decide) in_X9 u_1238 rfl (v := .ref gw) rfl dX9_savedNow_26 rfl ?_
    obtain ⟨x_10, hx_10, hR⟩ := yf_b hR
    refine xr_callVp (n := 32) (As := []) (rest := [.int gwk, .int x_6]) C (kX8_steps l D cy (w := gw) (wr := gwr) (wk := gwk) (wc := gwc) (wg := gwg) (ws := gws) (wa := gwa) (wb := gwb) (wad := gwad) (wan := gwan) (wak := gwak) (waG := gwaG) (wbd := gwbd) (wbn := gwbn) (wbk := gwbk) (wbG := gwbG) hx_10) mX8_steps u_1359 u_1360 u_1361 1 rfl rfl 8 [1, 2, 3, 4, 5] [0, 6, 7] rfl (by decide +kernel) rfl rfl rfl rfl (Nat.le_of_ble_eq_true rfl) (Nat.le_of_ble_eq_true rfl) (Nat.le_of_ble_eq_true rfl) (Nat.le_of_ble_eq_true rfl) (Nat.le_of_ble_eq_true rfl) dX9_savedNow_29 rfl (fun _ _ hp => hp.2) (fun v_11 hp_13 => ?_)
    obtain ⟨rfl, -⟩ := hp_13
    refine xr_st (st' := [.int x_10, .int gwk, .int x_6]) rfl ?_
    refine xr_isub (n := 33) C dX9_savedNow_32 rfl ?_
    refine xr_imul (n := 34) C dX9_savedNow_33 rfl ?_
    obtain rfl := Option.some.inj hR
    exact ret (x_6 * (gwk - x_10)) ⟨rfl, rfl⟩ (Nat.le_of_ble_eq_true rfl) (Nat.le_of_ble_eq_true rfl) dX9_savedNow_34
  · replace hR := yf_t c_5 hR
    refine xr_iconst (n := 10) (v := 0) C dX9_savedNow_9 rfl rfl ?_
    refine xr_goto (tgt := 34) C dX9_savedNow_10 rfl ?_
    obtain rfl := Option.some.inj hR
    exact ret 0 ⟨rfl, rfl⟩ (Nat.le_of_ble_eq_true rfl) (Nat.le_of_ble_eq_true rfl) dX9_savedNow_34
def fX9_savedNow_r (gwr : Int32) (gwk : Int32) (gwc : Int32) (gwg : Int32) (gws : Int32) (gwan : Nat) (gwak : Nat) (gwaG : Nat → Nat → Int32) (gwbn : Nat) (gwbk : Nat) (gwbG : Nat → Nat → Int32) (gKG : Nat → Nat → Int32) : Option (Int32) := ((fX9_bestTold_r gwr gwk gwc gwg gws gwan gwak gwaG gwbn gwbk gwbG gKG 3).bind fun x_1 => (if x_1 = (-1) then some 0 else ((fX9_bestTold_r gwr gwk gwc gwg gws gwan gwak gwaG gwbn gwbk gwbG gKG 3).bind fun x_6 => ((fX8_steps gwk gwg gwan gwak gwaG gwbn gwbk gwbG).bind fun x_10 => some (x_6 * (gwk - x_10))))))
set_option maxHeartbeats 4000000 in
set_option maxRecDepth 100000 in
theorem kX9_savedNow_r (l : Launch) (D : va_G) (cy : Nat → ClassId) (g : Nat) (gth : Int32) (gw : Nat) (gB : Nat) (gK : Nat) (gU : Nat) (gS : Nat) (gbe : Int32) (gwo : Int32) (gta : Int64) (gn : Nat) (glr : Int32) (glc : Int32) (gti : Int32) (ggo : Int32) (gR : Nat) (gch : Int32) (gD : Nat) (gwr : Int32) (gwk : Int32) (gwc : Int32) (gwg : Int32) (gws : Int32) (gwa : Nat) (gwb : Nat) (gwad : Nat → Nat) (gwan : Nat) (gwak : Nat) (gwaG : Nat → Nat → Int32) (gwbd : Nat → Nat) (gwbn : Nat) (gwbk : Nat) (gwbG : Nat → Nat → Int32) (gKd : Nat → Nat) (gKG : Nat → Nat → Int32) {res : Int32} (hR : fX9_savedNow_r gwr gwk gwc gwg gws gwan gwak gwaG gwbn gwbk gwbG gKG = some res) : YM l D cy yX9_savedNow hX9_savedNow 6 60 120 [.ref g] [[(g, .inr (11, [.int gth, .ref gw, .ref gB, .ref gK, .ref gU, .ref gS, .int gbe, .int gwo, .long gta, .ref gn, .int glr, .int glc, .int gti, .int ggo, .ref gR, .int gch, .ref gD]))], [(gw, .inr (10, [.int gwr, .int gwk, .int gwc, .int gwg, .int gws, .ref gwa, .ref gwb]))], [(gwa, .inl (cy 3, gwan, .inr (.inr (.inr (.inr (yad gwad))))))], xg_rows gwad gwan (cy 1) gwak gwaG, [(gwb, .inl (cy 3, gwbn, .inr (.inr (.inr (.inr (yad gwbd))))))], xg_rows gwbd gwbn (cy 1) gwbk gwbG, [(gK, .inl (cy 4, 5, .inr (.inr (.inr (.inr (yad gKd))))))], xg_rows gKd 5 (cy 2) 5 gKG] (fun v u => v = some (.int res) ∧ u = [[(g, .inr (11, [.int gth, .ref gw, .ref gB, .ref gK, .ref gU, .ref gS, .int gbe, .int gwo, .long gta, .ref gn, .int glr, .int glc, .int gti, .int ggo, .ref gR, .int gch, .ref gD]))], [(gw, .inr (10, [.int gwr, .int gwk, .int gwc, .int gwg, .int gws, .ref gwa, .ref gwb]))], [(gwa, .inl (cy 3, gwan, .inr (.inr (.inr (.inr (yad gwad))))))], xg_rows gwad gwan (cy 1) gwak gwaG, [(gwb, .inl (cy 3, gwbn, .inr (.inr (.inr (.inr (yad gwbd))))))], xg_rows gwbd gwbn (cy 1) gwbk gwbG, [(gK, .inl (cy 4, 5, .inr (.inr (.inr (.inr (yad gKd))))))], xg_rows gKd 5 (cy 2) 5 gKG]) := by
  unfold fX9_savedNow_r at hR
  refine YM.ofI (cc := cX9_savedNow) (maxL := 1) (ret := (some .int)) (by decide +kernel) rfl (Nat.le_of_ble_eq_true rfl) [(0, .ref g)] rfl rfl (fun p e s m args below meth c A H0 Q C hnm ret => ?_)
  refine xr_aload_n (n := 1) (j := 0) C dX9_savedNow_0 rfl rfl ?_
  refine xr_iconst (n := 2) (v := 3) C dX9_savedNow_1 rfl rfl ?_
  obtain ⟨x_1, hx_1, hR⟩ := yf_b hR
  refine xr_callVp (n := 5) (As := [.int 3]) (rest := []) C (kX9_bestTold_r l D cy (g := g) (gth := gth) (gw := gw) (gB := gB) (gK := gK) (gU := gU) (gS := gS) (gbe := gbe) (gwo := gwo) (gta := gta) (gn := gn) (glr := glr) (glc := glc) (gti := gti) (ggo := ggo) (gR := gR) (gch := gch) (gD := gD) (gwr := gwr) (gwk := gwk) (gwc := gwc) (gwg := gwg) (gws := gws) (gwa := gwa) (gwb := gwb) (gwad := gwad) (gwan := gwan) (gwak := gwak) (gwaG := gwaG) (gwbd := gwbd) (gwbn := gwbn) (gwbk := gwbk) (gwbG := gwbG) (gKd := gKd) (gKG := gKG) (i1 := 3) hx_1) mX9_bestTold u_1564 u_1566 u_52 0 rfl rfl 8 [0, 1, 2, 3, 4, 5, 6, 7] [] rfl (by decide +kernel) rfl rfl rfl rfl (Nat.le_of_ble_eq_true rfl) (Nat.le_of_ble_eq_true rfl) (Nat.le_of_ble_eq_true rfl) (Nat.le_of_ble_eq_true rfl) (Nat.le_of_ble_eq_true rfl) dX9_savedNow_2 rfl (fun _ _ hp => hp.2) (fun v_2 hp_4 => ?_)
  obtain ⟨rfl, -⟩ := hp_4
  refine xr_st (st' := [.int x_1]) rfl ?_
  refine xr_iconst (n := 6) (v := -1) C dX9_savedNow_5 rfl rfl ?_
  refine xr_icmp_ne (tgt := 13) (n := 9) C dX9_savedNow_6 rfl rfl (fun c_5 => ?_) (fun c_5 => ?_)
  · replace hR := yf_f c_5 hR
    refine xr_aload_n (n := 14) (j := 0) C dX9_savedNow_13 rfl rfl ?_
    refine xr_iconst (n := 15) (v := 3) C dX9_savedNow_14 rfl rfl ?_
    obtain ⟨x_6, hx_6, hR⟩ := yf_b hR
    refine xr_callVp (n := 18) (As := [.int 3]) (rest := []) C (kX9_bestTold_r l D cy (g := g) (gth := gth) (gw := gw) (gB := gB) (gK := gK) (gU := gU) (gS := gS) (gbe := gbe) (gwo := gwo) (gta := gta) (gn := gn) (glr := glr) (glc := glc) (gti := gti) (ggo := ggo) (gR := gR) (gch := gch) (gD := gD) (gwr := gwr) (gwk := gwk) (gwc := gwc) (gwg := gwg) (gws := gws) (gwa := gwa) (gwb := gwb) (gwad := gwad) (gwan := gwan) (gwak := gwak) (gwaG := gwaG) (gwbd := gwbd) (gwbn := gwbn) (gwbk := gwbk) (gwbG := gwbG) (gKd := gKd) (gKG := gKG) (i1 := 3) hx_6) mX9_bestTold u_1564 u_1566 u_52 0 rfl rfl 8 [0, 1, 2, 3, 4, 5, 6, 7] [] rfl (by decide +kernel) rfl rfl rfl rfl (Nat.le_of_ble_eq_true rfl) (Nat.le_of_ble_eq_true rfl) (Nat.le_of_ble_eq_true rfl) (Nat.le_of_ble_eq_true rfl) (Nat.le_of_ble_eq_true rfl) dX9_savedNow_15 rfl (fun _ _ hp => hp.2) (fun v_7 hp_9 => ?_)
    obtain ⟨rfl, -⟩ := hp_9
    refine xr_st (st' := [.int x_6]) rfl ?_
    refine xr_aload_n (n := 19) (j := 0) C dX9_savedNow_18 rfl rfl ?_
    refine xr_get (n := 22) C 0 rfl rfl 1 (by decide) in_X9 u_1238 rfl (v := .ref gw) rfl dX9_savedNow_19 rfl ?_
    refine xr_get (n := 25) C 1 rfl rfl 1 (by decide) in_X8 u_1202 rfl (v := .int gwk) rfl dX9_savedNow_22 rfl ?_
    refine xr_aload_n (n := 26) (j := 0) C dX9_savedNow_25 rfl rfl ?_
    refine xr_get (n := 29) C 0 rfl rfl 1 (by decide) in_X9 u_1238 rfl (v := .ref gw) rfl dX9_savedNow_26 rfl ?_
    obtain ⟨x_10, hx_10, hR⟩ := yf_b hR
    refine xr_callVp (n := 32) (As := []) (rest := [.int gwk, .int x_6]) C (kX8_steps l D cy (w := gw) (wr := gwr) (wk := gwk) (wc := gwc) (wg := gwg) (ws := gws) (wa := gwa) (wb := gwb) (wad := gwad) (wan := gwan) (wak := gwak) (waG := gwaG) (wbd := gwbd) (wbn := gwbn) (wbk := gwbk) (wbG := gwbG) hx_10) mX8_steps u_1359 u_1360 u_1361 1 rfl rfl 8 [1, 2, 3, 4, 5] [0, 6, 7] rfl (by decide +kernel) rfl rfl rfl rfl (Nat.le_of_ble_eq_true rfl) (Nat.le_of_ble_eq_true rfl) (Nat.le_of_ble_eq_true rfl) (Nat.le_of_ble_eq_true rfl) (Nat.le_of_ble_eq_true rfl) dX9_savedNow_29 rfl (fun _ _ hp => hp.2) (fun v_11 hp_13 => ?_)
    obtain ⟨rfl, -⟩ := hp_13
    refine xr_st (st' := [.int x_10, .int gwk, .int x_6]) rfl ?_
    refine xr_isub (n := 33) C dX9_savedNow_32 rfl ?_
    refine xr_imul (n := 34) C dX9_savedNow_33 rfl ?_
    obtain rfl := Option.some.inj hR
    exact ret (x_6 * (gwk - x_10)) ⟨rfl, rfl⟩ (Nat.le_of_ble_eq_true rfl) (Nat.le_of_ble_eq_true rfl) dX9_savedNow_34
  · replace hR := yf_t c_5 hR
    refine xr_iconst (n := 10) (v := 0) C dX9_savedNow_9 rfl rfl ?_
    refine xr_goto (tgt := 34) C dX9_savedNow_10 rfl ?_
    obtain rfl := Option.some.inj hR
    exact ret 0 ⟨rfl, rfl⟩ (Nat.le_of_ble_eq_true rfl) (Nat.le_of_ble_eq_true rfl) dX9_savedNow_34
theorem dX9_saved_0 : decode cX9_saved 0 = .ok (.aload_n 0, 1) := by decide +kernel
theorem dX9_saved_1 : decode cX9_saved 1 = .ok (.iconst 0, 1) := by decide +kernel
theorem dX9_saved_2 : decode cX9_saved 2 = .ok (.putfield 64, 3) := by decide +kernel
theorem dX9_saved_5 : decode cX9_saved 5 = .ok (.aload_n 0, 1) := by decide +kernel
theorem dX9_saved_6 : decode cX9_saved 6 = .ok (.invokevirtual 272, 3) := by decide +kernel
theorem dX9_saved_9 : decode cX9_saved 9 = .ok (.ireturn, 1) := by decide +kernel
def fX9_saved_i (gwr : Int32) (gwk : Int32) (gwc : Int32) (gwg : Int32) (gws : Int32) (gwan : Nat) (gwak : Nat) (gwaG : Nat → Nat → Int32) (gwbn : Nat) (gwbk : Nat) (gwbG : Nat → Nat → Int32) (gKG : Nat → Nat → Int32) : Option (Int32 × Int32) := ((fX9_savedNow_i gwr gwk gwc gwg gws gwan gwak gwaG gwbn gwbk gwbG gKG).bind fun x_1 => some (x_1, 0))
abbrev hX9_saved : Cond := .code yX9_saved cX9_saved 1 (some .int)
theorem mX9_saved : yM yX9_saved hX9_saved 0 := ⟨u_1571, u_64, by decide +kernel, by decide +kernel, by decide +kernel⟩
set_option maxHeartbeats 4000000 in
set_option maxRecDepth 100000 in
theorem kX9_saved_i (l : Launch) (D : va_G) (cy : Nat → ClassId) (g : Nat) (gth : Int32) (gw : Nat) (gB : Nat) (gK : Nat) (gU : Nat) (gS : Nat) (gbe : Int32) (gwo : Int32) (gta : Int64) (glr : Int32) (glc : Int32) (gti : Int32) (ggo : Int32) (gR : Nat) (gch : Int32) (gD : Nat) (gwr : Int32) (gwk : Int32) (gwc : Int32) (gwg : Int32) (gws : Int32) (gwa : Nat) (gwb : Nat) (gwad : Nat → Nat) (gwan : Nat) (gwak : Nat) (gwaG : Nat → Nat → Int32) (gwbd : Nat → Nat) (gwbn : Nat) (gwbk : Nat) (gwbG : Nat → Nat → Int32) (gKd : Nat → Nat) (gKG : Nat → Nat → Int32) {res : Int32 × Int32} (hR : fX9_saved_i gwr gwk gwc gwg gws gwan gwak gwaG gwbn gwbk gwbG gKG = some res) : YM l D cy yX9_saved hX9_saved 7 60 120 [.ref g] [[(g, .inr (11, [.int gth, .ref gw, .ref gB, .ref gK, .ref gU, .ref gS, .int gbe, .int gwo, .long gta, .null, .int glr, .int glc, .int gti, .int ggo, .ref gR, .int gch, .ref gD]))], [(gw, .inr (10, [.int gwr, .int gwk, .int gwc, .int gwg, .int gws, .ref gwa, .ref gwb]))], [(gwa, .inl (cy 3, gwan, .inr (.inr (.inr (.inr (yad gwad))))))], xg_rows gwad gwan (cy 1) gwak gwaG, [(gwb, .inl (cy 3, gwbn, .inr (.inr (.inr (.inr (yad gwbd))))))], xg_rows gwbd gwbn (cy 1) gwbk gwbG, [(gK, .inl (cy 4, 5, .inr (.inr (.inr (.inr (yad gKd))))))], xg_rows gKd 5 (cy 2) 5 gKG] (fun v u => v = some (.int res.1) ∧ u = [[(g, .inr (11, [.int res.2, .ref gw, .ref gB, .ref gK, .ref gU, .ref gS, .int gbe, .int gwo, .long gta, .null, .int glr, .int glc, .int gti, .int ggo, .ref gR, .int gch, .ref gD]))], [(gw, .inr (10, [.int gwr, .int gwk, .int gwc, .int gwg, .int gws, .ref gwa, .ref gwb]))], [(gwa, .inl (cy 3, gwan, .inr (.inr (.inr (.inr (yad gwad))))))], xg_rows gwad gwan (cy 1) gwak gwaG, [(gwb, .inl (cy 3, gwbn, .inr (.inr (.inr (.inr (yad gwbd))))))], xg_rows gwbd gwbn (cy 1) gwbk gwbG, [(gK, .inl (cy 4, 5, .inr (.inr (.inr (.inr (yad gKd))))))], xg_rows gKd 5 (cy 2) 5 gKG]) := by
  unfold fX9_saved_i at hR
  refine YM.ofI (cc := cX9_saved) (maxL := 1) (ret := (some .int)) (by decide +kernel) rfl (Nat.le_of_ble_eq_true rfl) [(0, .ref g)] rfl rfl (fun p e s m args below meth c A H0 Q C hnm ret => ?_)
  refine xr_aload_n (n := 1) (j := 0) C dX9_saved_0 rfl rfl ?_
  refine xr_iconst (n := 2) (v := 0) C dX9_saved_1 rfl rfl ?_
  refine xr_put (n := 5) C 0 rfl rfl 0 (by decide) in_X9 tyX9 tyX9_ok nmX9 u_1237 rfl rfl rfl rfl (Nat.le_of_ble_eq_true rfl) [[(g, .inr (11, [.int 0, .ref gw, .ref gB, .ref gK, .ref gU, .ref gS, .int gbe, .int gwo, .long gta, .null, .int glr, .int glc, .int gti, .int ggo, .ref gR, .int gch, .ref gD]))], [(gw, .inr (10, [.int gwr, .int gwk, .int gwc, .int gwg, .int gws, .ref gwa, .ref gwb]))], [(gwa, .inl (cy 3, gwan, .inr (.inr (.inr (.inr (yad gwad))))))], xg_rows gwad gwan (cy 1) gwak gwaG, [(gwb, .inl (cy 3, gwbn, .inr (.inr (.inr (.inr (yad gwbd))))))], xg_rows gwbd gwbn (cy 1) gwbk gwbG, [(gK, .inl (cy 4, 5, .inr (.inr (.inr (.inr (yad gKd))))))], xg_rows gKd 5 (cy 2) 5 gKG] rfl rfl dX9_saved_2 ?_
  refine xr_aload_n (n := 6) (j := 0) C dX9_saved_5 rfl rfl ?_
  obtain ⟨x_1, hx_1, hR⟩ := yf_b hR
  refine xr_callVp (n := 9) (As := []) (rest := []) C (kX9_savedNow_i l D cy (g := g) (gth := 0) (gw := gw) (gB := gB) (gK := gK) (gU := gU) (gS := gS) (gbe := gbe) (gwo := gwo) (gta := gta) (glr := glr) (glc := glc) (gti := gti) (ggo := ggo) (gR := gR) (gch := gch) (gD := gD) (gwr := gwr) (gwk := gwk) (gwc := gwc) (gwg := gwg) (gws := gws) (gwa := gwa) (gwb := gwb) (gwad := gwad) (gwan := gwan) (gwak := gwak) (gwaG := gwaG) (gwbd := gwbd) (gwbn := gwbn) (gwbk := gwbk) (gwbG := gwbG) (gKd := gKd) (gKG := gKG) hx_1) mX9_savedNow u_1572 u_1574 u_53 0 rfl rfl 8 [0, 1, 2, 3, 4, 5, 6, 7] [] rfl (by decide +kernel) rfl rfl rfl rfl (Nat.le_of_ble_eq_true rfl) (Nat.le_of_ble_eq_true rfl) (Nat.le_of_ble_eq_true rfl) (Nat.le_of_ble_eq_true rfl) (Nat.le_of_ble_eq_true rfl) dX9_saved_6 rfl (fun _ _ hp => hp.2) (fun v_2 hp_4 => ?_)
  obtain ⟨rfl, -⟩ := hp_4
  refine xr_st (st' := [.int x_1]) rfl ?_
  obtain rfl := Option.some.inj hR
  exact ret x_1 ⟨rfl, rfl⟩ (Nat.le_of_ble_eq_true rfl) (Nat.le_of_ble_eq_true rfl) dX9_saved_9
def fX9_saved_r (gwr : Int32) (gwk : Int32) (gwc : Int32) (gwg : Int32) (gws : Int32) (gwan : Nat) (gwak : Nat) (gwaG : Nat → Nat → Int32) (gwbn : Nat) (gwbk : Nat) (gwbG : Nat → Nat → Int32) (gKG : Nat → Nat → Int32) : Option (Int32 × Int32) := ((fX9_savedNow_r gwr gwk gwc gwg gws gwan gwak gwaG gwbn gwbk gwbG gKG).bind fun x_1 => some (x_1, 0))
set_option maxHeartbeats 4000000 in
set_option maxRecDepth 100000 in
theorem kX9_saved_r (l : Launch) (D : va_G) (cy : Nat → ClassId) (g : Nat) (gth : Int32) (gw : Nat) (gB : Nat) (gK : Nat) (gU : Nat) (gS : Nat) (gbe : Int32) (gwo : Int32) (gta : Int64) (gn : Nat) (glr : Int32) (glc : Int32) (gti : Int32) (ggo : Int32) (gR : Nat) (gch : Int32) (gD : Nat) (gwr : Int32) (gwk : Int32) (gwc : Int32) (gwg : Int32) (gws : Int32) (gwa : Nat) (gwb : Nat) (gwad : Nat → Nat) (gwan : Nat) (gwak : Nat) (gwaG : Nat → Nat → Int32) (gwbd : Nat → Nat) (gwbn : Nat) (gwbk : Nat) (gwbG : Nat → Nat → Int32) (gKd : Nat → Nat) (gKG : Nat → Nat → Int32) {res : Int32 × Int32} (hR : fX9_saved_r gwr gwk gwc gwg gws gwan gwak gwaG gwbn gwbk gwbG gKG = some res) : YM l D cy yX9_saved hX9_saved 7 60 120 [.ref g] [[(g, .inr (11, [.int gth, .ref gw, .ref gB, .ref gK, .ref gU, .ref gS, .int gbe, .int gwo, .long gta, .ref gn, .int glr, .int glc, .int gti, .int ggo, .ref gR, .int gch, .ref gD]))], [(gw, .inr (10, [.int gwr, .int gwk, .int gwc, .int gwg, .int gws, .ref gwa, .ref gwb]))], [(gwa, .inl (cy 3, gwan, .inr (.inr (.inr (.inr (yad gwad))))))], xg_rows gwad gwan (cy 1) gwak gwaG, [(gwb, .inl (cy 3, gwbn, .inr (.inr (.inr (.inr (yad gwbd))))))], xg_rows gwbd gwbn (cy 1) gwbk gwbG, [(gK, .inl (cy 4, 5, .inr (.inr (.inr (.inr (yad gKd))))))], xg_rows gKd 5 (cy 2) 5 gKG] (fun v u => v = some (.int res.1) ∧ u = [[(g, .inr (11, [.int res.2, .ref gw, .ref gB, .ref gK, .ref gU, .ref gS, .int gbe, .int gwo, .long gta, .ref gn, .int glr, .int glc, .int gti, .int ggo, .ref gR, .int gch, .ref gD]))], [(gw, .inr (10, [.int gwr, .int gwk, .int gwc, .int gwg, .int gws, .ref gwa, .ref gwb]))], [(gwa, .inl (cy 3, gwan, .inr (.inr (.inr (.inr (yad gwad))))))], xg_rows gwad gwan (cy 1) gwak gwaG, [(gwb, .inl (cy 3, gwbn, .inr (.inr (.inr (.inr (yad gwbd))))))], xg_rows gwbd gwbn (cy 1) gwbk gwbG, [(gK, .inl (cy 4, 5, .inr (.inr (.inr (.inr (yad gKd))))))], xg_rows gKd 5 (cy 2) 5 gKG]) := by
  unfold fX9_saved_r at hR
  refine YM.ofI (cc := cX9_saved) (maxL := 1) (ret := (some .int)) (by decide +kernel) rfl (Nat.le_of_ble_eq_true rfl) [(0, .ref g)] rfl rfl (fun p e s m args below meth c A H0 Q C hnm ret => ?_)
  refine xr_aload_n (n := 1) (j := 0) C dX9_saved_0 rfl rfl ?_
  refine xr_iconst (n := 2) (v := 0) C dX9_saved_1 rfl rfl ?_
  refine xr_put (n := 5) C 0 rfl rfl 0 (by decide) in_X9 tyX9 tyX9_ok nmX9 u_1237 rfl rfl rfl rfl (Nat.le_of_ble_eq_true rfl) [[(g, .inr (11, [.int 0, .ref gw, .ref gB, .ref gK, .ref gU, .ref gS, .int gbe, .int gwo, .long gta, .ref gn, .int glr, .int glc, .int gti, .int ggo, .ref gR, .int gch, .ref gD]))], [(gw, .inr (10, [.int gwr, .int gwk, .int gwc, .int gwg, .int gws, .ref gwa, .ref gwb]))], [(gwa, .inl (cy 3, gwan, .inr (.inr (.inr (.inr (yad gwad))))))], xg_rows gwad gwan (cy 1) gwak gwaG, [(gwb, .inl (cy 3, gwbn, .inr (.inr (.inr (.inr (yad gwbd))))))], xg_rows gwbd gwbn (cy 1) gwbk gwbG, [(gK, .inl (cy 4, 5, .inr (.inr (.inr (.inr (yad gKd))))))], xg_rows gKd 5 (cy 2) 5 gKG] rfl rfl dX9_saved_2 ?_
  refine xr_aload_n (n := 6) (j := 0) C dX9_saved_5 rfl rfl ?_
  obtain ⟨x_1, hx_1, hR⟩ := yf_b hR
  refine xr_callVp (n := 9) (As := []) (rest := []) C (kX9_savedNow_r l D cy (g := g) (gth := 0) (gw := gw) (gB := gB) (gK := gK) (gU := gU) (gS := gS) (gbe := gbe) (gwo := gwo) (gta := gta) (gn := gn) (glr := glr) (glc := glc) (gti := gti) (ggo := ggo) (gR := gR) (gch := gch) (gD := gD) (gwr := gwr) (gwk := gwk) (gwc := gwc) (gwg := gwg) (gws := gws) (gwa := gwa) (gwb := gwb) (gwad := gwad) (gwan := gwan) (gwak := gwak) (gwaG := gwaG) (gwbd := gwbd) (gwbn := gwbn) (gwbk := gwbk) (gwbG := gwbG) (gKd := gKd) (gKG := gKG) hx_1) mX9_savedNow u_1572 u_1574 u_53 0 rfl rfl 8 [0, 1, 2, 3, 4, 5, 6, 7] [] rfl (by decide +kernel) rfl rfl rfl rfl (Nat.le_of_ble_eq_true rfl) (Nat.le_of_ble_eq_true rfl) (Nat.le_of_ble_eq_true rfl) (Nat.le_of_ble_eq_true rfl) (Nat.le_of_ble_eq_true rfl) dX9_saved_6 rfl (fun _ _ hp => hp.2) (fun v_2 hp_4 => ?_)
  obtain ⟨rfl, -⟩ := hp_4
  refine xr_st (st' := [.int x_1]) rfl ?_
  obtain rfl := Option.some.inj hR
  exact ret x_1 ⟨rfl, rfl⟩ (Nat.le_of_ble_eq_true rfl) (Nat.le_of_ble_eq_true rfl) dX9_saved_9
