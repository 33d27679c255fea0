theorem u_1422 : Cond.methodLink RX9 190 yX9_beatsFrom ∈ yU := yu 1422 (by decide +kernel) (by decide +kernel)
theorem u_1424 : Cond.instanceMethod yX9_beatsFrom ∈ yU := yu 1424 (by decide +kernel) (by decide +kernel)
theorem u_36 : Cond.selects RX9 yX9_beatsFrom yX9_beatsFrom ∈ yU := yu 36 (by decide +kernel) (by decide +kernel)
theorem u_1454 : Cond.code yX9_stepTaken cX9_stepTaken 4 (some .int) ∈ yU := yu 1454 (by decide +kernel) (by decide +kernel)
theorem u_1251 : Cond.fieldLink RX9 38 "PulsemeshModel" "results" "[[I" ∈ yU := yu 1251 (by decide +kernel) (by decide +kernel)
theorem u_1491 : Cond.code yX9_isNoResult cX9_isNoResult 3 (some .boolean) ∈ yU := yu 1491 (by decide +kernel) (by decide +kernel)
theorem u_1488 : Cond.methodLink RX9 228 yX9_isNoResult ∈ yU := yu 1488 (by decide +kernel) (by decide +kernel)
theorem u_1490 : Cond.instanceMethod yX9_isNoResult ∈ yU := yu 1490 (by decide +kernel) (by decide +kernel)
theorem u_45 : Cond.selects RX9 yX9_isNoResult yX9_isNoResult ∈ yU := yu 45 (by decide +kernel) (by decide +kernel)
theorem u_1487 : Cond.code yX9_bend cX9_bend 4 (some .int) ∈ yU := yu 1487 (by decide +kernel) (by decide +kernel)
def fX9_rest_r (glr : Int32) (glc : Int32) (gti : Int32) (ggo : Int32) (gnr : Int32) (gnk : Int32) (gnc : Int32) (gng : Int32) (gns : Int32) (gnan : Nat) (gnak : Nat) (gnaG : Nat → Nat → Int32) (gnbn : Nat) (gnbk : Nat) (gnbG : Nat → Nat → Int32) : Option (Int32) := ((fX9_beatsFrom glr glc gti gnr gnk gnc gng gns gnan gnak gnaG gnbn gnbk gnbG).bind fun x_1 => some (x_1 - ggo))
set_option maxHeartbeats 4000000 in
set_option maxRecDepth 100000 in
theorem kX9_rest_r (l : Launch) (D : va_G) (cy : Nat → ClassId) (g : Nat) (gth : Int32) (gw : Nat) (gB : Nat) (gK : Nat) (gU : Nat) (gS : Nat) (gbe : Int32) (gwo : Int32) (gta : Int64) (gn : Nat) (glr : Int32) (glc : Int32) (gti : Int32) (ggo : Int32) (gR : Nat) (gch : Int32) (gD : Nat) (gnr : Int32) (gnk : Int32) (gnc : Int32) (gng : Int32) (gns : Int32) (gna : Nat) (gnb : Nat) (gnad : Nat → Nat) (gnan : Nat) (gnak : Nat) (gnaG : Nat → Nat → Int32) (gnbd : Nat → Nat) (gnbn : Nat) (gnbk : Nat) (gnbG : Nat → Nat → Int32) {res : Int32} (hR : fX9_rest_r glr glc gti ggo gnr gnk gnc gng gns gnan gnak gnaG gnbn gnbk gnbG = some res) : YM l D cy yX9_left_ hX9_left_ 5 0 0 [.ref g] [[(g, .inr (11, [.int gth, .ref gw, .ref gB, .ref gK, .ref gU, .ref gS, .int gbe, .int gwo, .long gta, .ref gn, .int glr, .int glc, .int gti, .int ggo, .ref gR, .int gch, .ref gD]))], [(gn, .inr (10, [.int gnr, .int gnk, .int gnc, .int gng, .int gns, .ref gna, .ref gnb]))], [(gna, .inl (cy 3, gnan, .inr (.inr (.inr (.inr (yad gnad))))))], xg_rows gnad gnan (cy 1) gnak gnaG, [(gnb, .inl (cy 3, gnbn, .inr (.inr (.inr (.inr (yad gnbd))))))], xg_rows gnbd gnbn (cy 1) gnbk gnbG] (fun v u => v = some (.int res) ∧ u = [[(g, .inr (11, [.int gth, .ref gw, .ref gB, .ref gK, .ref gU, .ref gS, .int gbe, .int gwo, .long gta, .ref gn, .int glr, .int glc, .int gti, .int ggo, .ref gR, .int gch, .ref gD]))], [(gn, .inr (10, [.int gnr, .int gnk, .int gnc, .int gng, .int gns, .ref gna, .ref gnb]))], [(gna, .inl (cy 3, gnan, .inr (.inr (.inr (.inr (yad gnad))))))], xg_rows gnad gnan (cy 1) gnak gnaG, [(gnb, .inl (cy 3, gnbn, .inr (.inr (.inr (.inr (yad gnbd))))))], xg_rows gnbd gnbn (cy 1) gnbk gnbG]) := by
  unfold fX9_rest_r at hR
  refine YM.ofI (cc := cX9_left_) (maxL := 1) (ret := (some .int)) (by decide +kernel) rfl (Nat.le_of_ble_eq_true rfl) [(0, .ref g)] rfl rfl (fun p e s m args below meth c A H0 Q C hnm ret => ?_)
  refine xr_aload_n (n := 1) (j := 0) C dX9_left__0 rfl rfl ?_
  refine xr_get (n := 4) C 0 rfl rfl 9 (by decide) in_X9 u_1246 rfl (v := .ref gn) rfl dX9_left__1 rfl ?_
  refine xr_ifnonnull (tgt := 11) C dX9_left__4 rfl ?_
  refine xr_aload_n (n := 12) (j := 0) C dX9_left__11 rfl rfl ?_
  obtain ⟨x_1, hx_1, hR⟩ := yf_b hR
  refine xr_callVp (n := 15) (As := []) (rest := []) C (kX9_beatsFrom l D cy (g := g) (gth := gth) (gw := gw) (gB := gB) (gK := gK) (gU := gU) (gS := gS) (gbe := gbe) (gwo := gwo) (gta := gta) (gn := gn) (glr := glr) (glc := glc) (gti := gti) (ggo := ggo) (gR := gR) (gch := gch) (gD := gD) (gnr := gnr) (gnk := gnk) (gnc := gnc) (gng := gng) (gns := gns) (gna := gna) (gnb := gnb) (gnad := gnad) (gnan := gnan) (gnak := gnak) (gnaG := gnaG) (gnbd := gnbd) (gnbn := gnbn) (gnbk := gnbk) (gnbG := gnbG) hx_1) mX9_beatsFrom u_1422 u_1424 u_36 0 rfl rfl 6 [0, 1, 2, 3, 4, 5] [] rfl (by decide +kernel) rfl rfl rfl rfl (Nat.le_of_ble_eq_true rfl) (Nat.le_of_ble_eq_true rfl) (Nat.le_of_ble_eq_true rfl) (Nat.le_of_ble_eq_true rfl) (Nat.le_of_ble_eq_true rfl) dX9_left__12 rfl (fun _ _ hp => hp.2) (fun v_2 hp_4 => ?_)
  obtain ⟨rfl, -⟩ := hp_4
  refine xr_st (st' := [.int x_1]) rfl ?_
  refine xr_aload_n (n := 16) (j := 0) C dX9_left__15 rfl rfl ?_
  refine xr_get (n := 19) C 0 rfl rfl 13 (by decide) in_X9 u_1250 rfl (v := .int ggo) rfl dX9_left__16 rfl ?_
  refine xr_isub (n := 20) C dX9_left__19 rfl ?_
  obtain rfl := Option.some.inj hR
  exact ret (x_1 - ggo) ⟨rfl, rfl⟩ (Nat.le_of_ble_eq_true rfl) (Nat.le_of_ble_eq_true rfl) dX9_left__20
theorem dX9_stepTaken_0 : decode cX9_stepTaken 0 = .ok (.iload_n 1, 1) := by decide +kernel
theorem dX9_stepTaken_1 : decode cX9_stepTaken 1 = .ok (.iload_n 2, 1) := by decide +kernel
theorem dX9_stepTaken_2 : decode cX9_stepTaken 2 = .ok (.isub, 1) := by decide +kernel
theorem dX9_stepTaken_3 : decode cX9_stepTaken 3 = .ok (.iload_n 3, 1) := by decide +kernel
theorem dX9_stepTaken_4 : decode cX9_stepTaken 4 = .ok (.isub, 1) := by decide +kernel
theorem dX9_stepTaken_5 : decode cX9_stepTaken 5 = .ok (.iconst 0, 1) := by decide +kernel
theorem dX9_stepTaken_6 : decode cX9_stepTaken 6 = .ok (.aload_n 0, 1) := by decide +kernel
theorem dX9_stepTaken_7 : decode cX9_stepTaken 7 = .ok (.getfield 137, 3) := by decide +kernel
theorem dX9_stepTaken_10 : decode cX9_stepTaken 10 = .ok (.invokevirtual 120, 3) := by decide +kernel
theorem dX9_stepTaken_13 : decode cX9_stepTaken 13 = .ok (.iconst 1, 1) := by decide +kernel
theorem dX9_stepTaken_14 : decode cX9_stepTaken 14 = .ok (.isub, 1) := by decide +kernel
theorem dX9_stepTaken_15 : decode cX9_stepTaken 15 = .ok (.invokestatic 75, 3) := by decide +kernel
theorem dX9_stepTaken_18 : decode cX9_stepTaken 18 = .ok (.ifCond .eq 11, 3) := by decide +kernel
theorem dX9_stepTaken_21 : decode cX9_stepTaken 21 = .ok (.iload_n 1, 1) := by decide +kernel
theorem dX9_stepTaken_22 : decode cX9_stepTaken 22 = .ok (.iload_n 2, 1) := by decide +kernel
theorem dX9_stepTaken_23 : decode cX9_stepTaken 23 = .ok (.isub, 1) := by decide +kernel
theorem dX9_stepTaken_24 : decode cX9_stepTaken 24 = .ok (.iload_n 3, 1) := by decide +kernel
theorem dX9_stepTaken_25 : decode cX9_stepTaken 25 = .ok (.isub, 1) := by decide +kernel
theorem dX9_stepTaken_26 : decode cX9_stepTaken 26 = .ok (.goto 4, 3) := by decide +kernel
theorem dX9_stepTaken_29 : decode cX9_stepTaken 29 = .ok (.iconst (-1), 1) := by decide +kernel
theorem dX9_stepTaken_30 : decode cX9_stepTaken 30 = .ok (.ireturn, 1) := by decide +kernel
def fX9_stepTaken (gnk : Int32) (gng : Int32) (gnan : Nat) (gnak : Nat) (gnaG : Nat → Nat → Int32) (gnbn : Nat) (gnbk : Nat) (gnbG : Nat → Nat → Int32) (i1 : Int32) (i2 : Int32) (i3 : Int32) : Option (Int32) := ((fX8_steps gnk gng gnan gnak gnaG gnbn gnbk gnbG).bind fun x_1 => ((fX9_isIn ((i1 - i2) - i3) 0 (x_1 - 1)).bind fun x_5 => (if x_5 = 0 then some (-1) else some ((i1 - i2) - i3))))
abbrev hX9_stepTaken : Cond := .code yX9_stepTaken cX9_stepTaken 4 (some .int)
theorem mX9_stepTaken : yM yX9_stepTaken hX9_stepTaken 3 := ⟨u_1454, u_64, by decide +kernel, by decide +kernel, by decide +kernel⟩
set_option maxHeartbeats 4000000 in
set_option maxRecDepth 100000 in
theorem kX9_stepTaken (l : Launch) (D : va_G) (cy : Nat → ClassId) (g : Nat) (gth : Int32) (gw : Nat) (gB : Nat) (gK : Nat) (gU : Nat) (gS : Nat) (gbe : Int32) (gwo : Int32) (gta : Int64) (gn : Nat) (glr : Int32) (glc : Int32) (gti : Int32) (ggo : Int32) (gR : Nat) (gch : Int32) (gD : Nat) (gnr : Int32) (gnk : Int32) (gnc : Int32) (gng : Int32) (gns : Int32) (gna : Nat) (gnb : Nat) (gnad : Nat → Nat) (gnan : Nat) (gnak : Nat) (gnaG : Nat → Nat → Int32) (gnbd : Nat → Nat) (gnbn : Nat) (gnbk : Nat) (gnbG : Nat → Nat → Int32) (i1 : Int32) (i2 : Int32) (i3 : Int32) {res : Int32} (hR : fX9_stepTaken gnk gng gnan gnak gnaG gnbn gnbk gnbG i1 i2 i3 = some res) : YM l D cy yX9_stepTaken hX9_stepTaken 4 0 0 [.ref g, .int i1, .int i2, .int i3] [[(g, .inr (11, [.int gth, .ref gw, .ref gB, .ref gK, .ref gU, .ref gS, .int gbe, .int gwo, .long gta, .ref gn, .int glr, .int glc, .int gti, .int ggo, .ref gR, .int gch, .ref gD]))], [(gn, .inr (10, [.int gnr, .int gnk, .int gnc, .int gng, .int gns, .ref gna, .ref gnb]))], [(gna, .inl (cy 3, gnan, .inr (.inr (.inr (.inr (yad gnad))))))], xg_rows gnad gnan (cy 1) gnak gnaG, [(gnb, .inl (cy 3, gnbn, .inr (.inr (.inr (.inr (yad gnbd))))))], xg_rows gnbd gnbn (cy 1) gnbk gnbG] (fun v u => v = some (.int res) ∧ u = [[(g, .inr (11, [.int gth, .ref gw, .ref gB, .ref gK, .ref gU, .ref gS, .int gbe, .int gwo, .long gta, .ref gn, .int glr, .int glc, .int gti, .int ggo, .ref gR, .int gch, .ref gD]))], [(gn, .inr (10, [.int gnr, .int gnk, .int gnc, .int gng, .int gns, .ref gna, .ref gnb]))], [(gna, .inl (cy 3, gnan, .inr (.inr (.inr (.inr (yad gnad))))))], xg_rows gnad gnan (cy 1) gnak gnaG, [(gnb, .inl (cy 3, gnbn, .inr (.inr (.inr (.inr (yad gnbd))))))], xg_rows gnbd gnbn (cy 1) gnbk gnbG]) := by
  unfold fX9_stepTaken at hR
  refine YM.ofI (cc := cX9_stepTaken) (maxL := 4) (ret := (some .int)) (by decide +kernel) rfl (Nat.le_of_ble_eq_true rfl) [(0, .ref g), (1, .int i1), (2, .int i2), (3, .int i3)] rfl rfl (fun p e s m args below meth c A H0 Q C hnm ret => ?_)
  refine xr_iload_n (n := 1) (j := 1) C dX9_stepTaken_0 rfl rfl ?_
  refine xr_iload_n (n := 2) (j := 2) C dX9_stepTaken_1 rfl rfl ?_
  refine xr_isub (n := 3) C dX9_stepTaken_2 rfl ?_
  refine xr_iload_n (n := 4) (j := 3) C dX9_stepTaken_3 rfl rfl ?_
  refine xr_isub (n := 5) C dX9_stepTaken_4 rfl ?_
  refine xr_iconst (n := 6) (v := 0) C dX9_stepTaken_5 rfl rfl ?_
  refine xr_aload_n (n := 7) (j := 0) C dX9_stepTaken_6 rfl rfl ?_
  refine xr_get (n := 10) C 0 rfl rfl 9 (by decide) in_X9 u_1246 rfl (v := .ref gn) rfl dX9_stepTaken_7 rfl ?_
  obtain ⟨x_1, hx_1, hR⟩ := yf_b hR
  refine xr_callVp (n := 13) (As := []) (rest := [.int 0, .int ((i1 - i2) - i3)]) C (kX8_steps l D cy (w := gn) (wr := gnr) (wk := gnk) (wc := gnc) (wg := gng) (ws := gns) (wa := gna) (wb := gnb) (wad := gnad) (wan := gnan) (wak := gnak) (waG := gnaG) (wbd := gnbd) (wbn := gnbn) (wbk := gnbk) (wbG := gnbG) hx_1) mX8_steps u_1359 u_1360 u_1361 1 rfl rfl 6 [1, 2, 3, 4, 5] [0] rfl (by decide +kernel) rfl rfl rfl rfl (Nat.le_of_ble_eq_true rfl) (Nat.le_of_ble_eq_true rfl) (Nat.le_of_ble_eq_true rfl) (Nat.le_of_ble_eq_true rfl) (Nat.le_of_ble_eq_true rfl) dX9_stepTaken_10 rfl (fun _ _ hp => hp.2) (fun v_2 hp_4 => ?_)
  obtain ⟨rfl, -⟩ := hp_4
  refine xr_st (st' := [.int x_1, .int 0, .int ((i1 - i2) - i3)]) rfl ?_
  refine xr_iconst (n := 14) (v := 1) C dX9_stepTaken_13 rfl rfl ?_
  refine xr_isub (n := 15) C dX9_stepTaken_14 rfl ?_
  obtain ⟨x_5, hx_5, hR⟩ := yf_b hR
  refine xr_callSp (n := 18) (As := [.int ((i1 - i2) - i3), .int 0, .int (x_1 - 1)]) (rest := []) C (kX9_isIn l D cy (i1 := (i1 - i2) - i3) (i2 := 0) (i3 := x_1 - 1) hx_5) mX9_isIn u_1298 u_1299 6 [] [0, 1, 2, 3, 4, 5] rfl (by decide +kernel) rfl rfl rfl rfl (Nat.le_of_ble_eq_true rfl) (Nat.le_of_ble_eq_true rfl) (Nat.le_of_ble_eq_true rfl) (Nat.le_of_ble_eq_true rfl) (Nat.le_of_ble_eq_true rfl) dX9_stepTaken_15 rfl (fun _ _ hp => hp.2) (fun v_6 hp_8 => ?_)
  obtain ⟨rfl, -⟩ := hp_8
  refine xr_st (st' := [.int x_5]) rfl ?_
  refine xr_if_eq (tgt := 29) (n := 21) C dX9_stepTaken_18 rfl rfl (fun c_9 => ?_) (fun c_9 => ?_)
  · replace hR := yf_t c_9 hR
    refine xr_iconst (n := 30) (v := -1) C dX9_stepTaken_29 rfl rfl ?_
    obtain rfl := Option.some.inj hR
    exact ret (-1) ⟨rfl, rfl⟩ (Nat.le_of_ble_eq_true rfl) (Nat.le_of_ble_eq_true rfl) dX9_stepTaken_30
  · replace hR := yf_f c_9 hR
    refine xr_iload_n (n := 22) (j := 1) C dX9_stepTaken_21 rfl rfl ?_
    refine xr_iload_n (n := 23) (j := 2) C dX9_stepTaken_22 rfl rfl ?_
    refine xr_isub (n := 24) C dX9_stepTaken_23 rfl ?_
    refine xr_iload_n (n := 25) (j := 3) C dX9_stepTaken_24 rfl rfl ?_
    refine xr_isub (n := 26) C dX9_stepTaken_25 rfl ?_
    refine xr_goto (tgt := 30) C dX9_stepTaken_26 rfl ?_
    obtain rfl := Option.some.inj hR
    exact ret ((i1 - i2) - i3) ⟨rfl, rfl⟩ (Nat.le_of_ble_eq_true rfl) (Nat.le_of_ble_eq_true rfl) dX9_stepTaken_30
theorem dX9_isNoResult_0 : decode cX9_isNoResult 0 = .ok (.iload_n 1, 1) := by decide +kernel
theorem dX9_isNoResult_1 : decode cX9_isNoResult 1 = .ok (.iconst 0, 1) := by decide +kernel
theorem dX9_isNoResult_2 : decode cX9_isNoResult 2 = .ok (.aload_n 0, 1) := by decide +kernel
theorem dX9_isNoResult_3 : decode cX9_isNoResult 3 = .ok (.getfield 38, 3) := by decide +kernel
theorem dX9_isNoResult_6 : decode cX9_isNoResult 6 = .ok (.arraylength, 1) := by decide +kernel
theorem dX9_isNoResult_7 : decode cX9_isNoResult 7 = .ok (.iconst 1, 1) := by decide +kernel
theorem dX9_isNoResult_8 : decode cX9_isNoResult 8 = .ok (.isub, 1) := by decide +kernel
theorem dX9_isNoResult_9 : decode cX9_isNoResult 9 = .ok (.invokestatic 75, 3) := by decide +kernel
theorem dX9_isNoResult_12 : decode cX9_isNoResult 12 = .ok (.ifCond .eq 20, 3) := by decide +kernel
theorem dX9_isNoResult_15 : decode cX9_isNoResult 15 = .ok (.iload_n 2, 1) := by decide +kernel
theorem dX9_isNoResult_16 : decode cX9_isNoResult 16 = .ok (.iconst 0, 1) := by decide +kernel
theorem dX9_isNoResult_17 : decode cX9_isNoResult 17 = .ok (.aload_n 0, 1) := by decide +kernel
theorem dX9_isNoResult_18 : decode cX9_isNoResult 18 = .ok (.getfield 38, 3) := by decide +kernel
theorem dX9_isNoResult_21 : decode cX9_isNoResult 21 = .ok (.iconst 0, 1) := by decide +kernel
theorem dX9_isNoResult_22 : decode cX9_isNoResult 22 = .ok (.aaload, 1) := by decide +kernel
theorem dX9_isNoResult_23 : decode cX9_isNoResult 23 = .ok (.arraylength, 1) := by decide +kernel
theorem dX9_isNoResult_24 : decode cX9_isNoResult 24 = .ok (.iconst 1, 1) := by decide +kernel
theorem dX9_isNoResult_25 : decode cX9_isNoResult 25 = .ok (.isub, 1) := by decide +kernel
theorem dX9_isNoResult_26 : decode cX9_isNoResult 26 = .ok (.invokestatic 75, 3) := by decide +kernel
theorem dX9_isNoResult_29 : decode cX9_isNoResult 29 = .ok (.ifCond .ne 7, 3) := by decide +kernel
theorem dX9_isNoResult_32 : decode cX9_isNoResult 32 = .ok (.iconst 1, 1) := by decide +kernel
theorem dX9_isNoResult_33 : decode cX9_isNoResult 33 = .ok (.goto 4, 3) := by decide +kernel
theorem dX9_isNoResult_36 : decode cX9_isNoResult 36 = .ok (.iconst 0, 1) := by decide +kernel
theorem dX9_isNoResult_37 : decode cX9_isNoResult 37 = .ok (.ireturn, 1) := by decide +kernel
def fX9_isNoResult_i (gRn : Nat) (gRk : Nat) (i1 : Int32) (i2 : Int32) : Option (Int32) := ((fX9_isIn i1 0 ((nI gRn) - 1)).bind fun x_1 => (if x_1 = 0 then some 1 else (if ¬ ((0 : Int32) < 0 ∨ gRn ≤ (0 : Int32).toNatClampNeg) then ((fX9_isIn i2 0 ((nI gRk) - 1)).bind fun x_7 => (if x_7 = 0 then some 1 else some 0)) else none)))
abbrev hX9_isNoResult : Cond := .code yX9_isNoResult cX9_isNoResult 3 (some .boolean)
theorem mX9_isNoResult : yM yX9_isNoResult hX9_isNoResult 2 := ⟨u_1491, u_64, by decide +kernel, by decide +kernel, by decide +kernel⟩
set_option maxHeartbeats 4000000 in
set_option maxRecDepth 100000 in
theorem kX9_isNoResult_i (l : Launch) (D : va_G) (cy : Nat → ClassId) (g : Nat) (gth : Int32) (gw : Nat) (gB : Nat) (gK : Nat) (gU : Nat) (gS : Nat) (gbe : Int32) (gwo : Int32) (gta : Int64) (glr : Int32) (glc : Int32) (gti : Int32) (ggo : Int32) (gR : Nat) (gch : Int32) (gD : Nat) (gRd : Nat → Nat) (gRn : Nat) (gRk : Nat) (gRG : Nat → Nat → Int32) (i1 : Int32) (i2 : Int32) {res : Int32} (hR : fX9_isNoResult_i gRn gRk i1 i2 = some res) : YM l D cy yX9_isNoResult hX9_isNoResult 2 0 0 [.ref g, .int i1, .int i2] [[(g, .inr (11, [.int gth, .ref gw, .ref gB, .ref gK, .ref gU, .ref gS, .int gbe, .int gwo, .long gta, .null, .int glr, .int glc, .int gti, .int ggo, .ref gR, .int gch, .ref gD]))], [(gR, .inl (cy 3, gRn, .inr (.inr (.inr (.inr (yad gRd))))))], xg_rows gRd gRn (cy 1) gRk gRG] (fun v u => v = some (.int res) ∧ u = [[(g, .inr (11, [.int gth, .ref gw, .ref gB, .ref gK, .ref gU, .ref gS, .int gbe, .int gwo, .long gta, .null, .int glr, .int glc, .int gti, .int ggo, .ref gR, .int gch, .ref gD]))], [(gR, .inl (cy 3, gRn, .inr (.inr (.inr (.inr (yad gRd))))))], xg_rows gRd gRn (cy 1) gRk gRG]) := by
  unfold fX9_isNoResult_i at hR
  refine YM.ofZ (cc := cX9_isNoResult) (maxL := 3) (ret := (some .boolean)) (by decide +kernel) rfl (Nat.le_of_ble_eq_true rfl) [(0, .ref g), (1, .int i1), (2, .int i2)] rfl .boolean rfl (fun p e s m args below meth c A H0 Q C hnm ret => ?_)
  refine xr_iload_n (n := 1) (j := 1) C dX9_isNoResult_0 rfl rfl ?_
  refine xr_iconst (n := 2) (v := 0) C dX9_isNoResult_1 rfl rfl ?_
  refine xr_aload_n (n := 3) (j := 0) C dX9_isNoResult_2 rfl rfl ?_
  refine xr_get (n := 6) C 0 rfl rfl 14 (by decide) in_X9 u_1251 rfl (v := .ref gR) rfl dX9_isNoResult_3 rfl ?_
  refine xr_alen (n := 7) C 1 0 rfl 3 rfl rfl dX9_isNoResult_6 rfl ?_
  refine xr_iconst (n := 8) (v := 1) C dX9_isNoResult_7 rfl rfl ?_
  refine xr_isub (n := 9) C dX9_isNoResult_8 rfl ?_
  obtain ⟨x_1, hx_1, hR⟩ := yf_b hR
  refine xr_callSp (n := 12) (As := [.int i1, .int 0, .int ((nI gRn) - 1)]) (rest := []) C (kX9_isIn l D cy (i1 := i1) (i2 := 0) (i3 := (nI gRn) - 1) hx_1) mX9_isIn u_1298 u_1299 3 [] [0, 1, 2] rfl (by decide +kernel) rfl rfl rfl rfl (Nat.le_of_ble_eq_true rfl) (Nat.le_of_ble_eq_true rfl) (Nat.le_of_ble_eq_true rfl) (Nat.le_of_ble_eq_true rfl) (Nat.le_of_ble_eq_true rfl) dX9_isNoResult_9 rfl (fun _ _ hp => hp.2) (fun v_2 hp_4 => ?_)
  obtain ⟨rfl, -⟩ := hp_4
  refine xr_st (st' := [.int x_1]) rfl ?_
  refine xr_if_eq (tgt := 32) (n := 15) C dX9_isNoResult_12 rfl rfl (fun c_5 => ?_) (fun c_5 => ?_)
  · replace hR := yf_t c_5 hR
    refine xr_iconst (n := 33) (v := 1) C dX9_isNoResult_32 rfl rfl ?_
    refine xr_goto (tgt := 37) C dX9_isNoResult_33 rfl ?_
    obtain rfl := Option.some.inj hR
    exact ret 1 (by decide) ⟨rfl, rfl⟩ (Nat.le_of_ble_eq_true rfl) (Nat.le_of_ble_eq_true rfl) dX9_isNoResult_37
  · replace hR := yf_f c_5 hR
    refine xr_iload_n (n := 16) (j := 2) C dX9_isNoResult_15 rfl rfl ?_
    refine xr_iconst (n := 17) (v := 0) C dX9_isNoResult_16 rfl rfl ?_
    refine xr_aload_n (n := 18) (j := 0) C dX9_isNoResult_17 rfl rfl ?_
    refine xr_get (n := 21) C 0 rfl rfl 14 (by decide) in_X9 u_1251 rfl (v := .ref gR) rfl dX9_isNoResult_18 rfl ?_
    refine xr_iconst (n := 22) (v := 0) C dX9_isNoResult_21 rfl rfl ?_
    obtain ⟨g_6, hR⟩ := yf_g hR
    refine xr_aald (n := 23) C 1 0 rfl 3 rfl rfl g_6 rfl dX9_isNoResult_22 rfl ?_
    refine xr_aleng (n := 24) C 2 1 rfl ((0 : Int32).toNatClampNeg) (ylt g_6) rfl dX9_isNoResult_23 rfl ?_
    refine xr_iconst (n := 25) (v := 1) C dX9_isNoResult_24 rfl rfl ?_
    refine xr_isub (n := 26) C dX9_isNoResult_25 rfl ?_
    obtain ⟨x_7, hx_7, hR⟩ := yf_b hR
    refine xr_callSp (n := 29) (As := [.int i2, .int 0, .int ((nI gRk) - 1)]) (rest := []) C (kX9_isIn l D cy (i1 := i2) (i2 := 0) (i3 := (nI gRk) - 1) hx_7) mX9_isIn u_1298 u_1299 3 [] [0, 1, 2] rfl (by decide +kernel) rfl rfl rfl rfl (Nat.le_of_ble_eq_true rfl) (Nat.le_of_ble_eq_true rfl) (Nat.le_of_ble_eq_true rfl) (Nat.le_of_ble_eq_true rfl) (Nat.le_of_ble_eq_true rfl) dX9_isNoResult_26 rfl (fun _ _ hp => hp.2) (fun v_8 hp_10 => ?_)
    obtain ⟨rfl, -⟩ := hp_10
    refine xr_st (st' := [.int x_7]) rfl ?_
    refine xr_if_ne (tgt := 36) (n := 32) C dX9_isNoResult_29 rfl rfl (fun c_11 => ?_) (fun c_11 => ?_)
    · replace hR := yf_f c_11 hR
      refine xr_iconst (n := 37) (v := 0) C dX9_isNoResult_36 rfl rfl ?_
      obtain rfl := Option.some.inj hR
      exact ret 0 (by decide) ⟨rfl, rfl⟩ (Nat.le_of_ble_eq_true rfl) (Nat.le_of_ble_eq_true rfl) dX9_isNoResult_37
    · replace hR := yf_t c_11 hR
      refine xr_iconst (n := 33) (v := 1) C dX9_isNoResult_32 rfl rfl ?_
      refine xr_goto (tgt := 37) C dX9_isNoResult_33 rfl ?_
      obtain rfl := Option.some.inj hR
      exact ret 1 (by decide) ⟨rfl, rfl⟩ (Nat.le_of_ble_eq_true rfl) (Nat.le_of_ble_eq_true rfl) dX9_isNoResult_37
def fX9_isNoResult_r (gRn : Nat) (gRk : Nat) (i1 : Int32) (i2 : Int32) : Option (Int32) := ((fX9_isIn i1 0 ((nI gRn) - 1)).bind fun x_1 => (if x_1 = 0 then some 1 else (if ¬ ((0 : Int32) < 0 ∨ gRn ≤ (0 : Int32).toNatClampNeg) then ((fX9_isIn i2 0 ((nI gRk) - 1)).bind fun x_7 => (if x_7 = 0 then some 1 else some 0)) else none)))
set_option maxHeartbeats 4000000 in
set_option maxRecDepth 100000 in
theorem kX9_isNoResult_r (l : Launch) (D : va_G) (cy : Nat → ClassId) (g : Nat) (gth : Int32) (gw : Nat) (gB : Nat) (gK : Nat) (gU : Nat) (gS : Nat) (gbe : Int32) (gwo : Int32) (gta : Int64) (gn : Nat) (glr : Int32) (glc : Int32) (gti : Int32) (ggo : Int32) (gR : Nat) (gch : Int32) (gD : Nat) (gRd : Nat → Nat) (gRn : Nat) (gRk : Nat) (gRG : Nat → Nat → Int32) (i1 : Int32) (i2 : Int32) {res : Int32} (hR : fX9_isNoResult_r gRn gRk i1 i2 = some res) : YM l D cy yX9_isNoResult hX9_isNoResult 2 0 0 [.ref g, .int i1, .int i2] [[(g, .inr (11, [.int gth, .ref gw, .ref gB, .ref gK, .ref gU, .ref gS, .int gbe, .int gwo, .long gta, .ref gn, .int glr, .int glc, .int gti, .int ggo, .ref gR, .int gch, .ref gD]))], [(gR, .inl (cy 3, gRn, .inr (.inr (.inr (.inr (yad gRd))))))], xg_rows gRd gRn (cy 1) gRk gRG] (fun v u => v = some (.int res) ∧ u = [[(g, .inr (11, [.int gth, .ref gw, .ref gB, .ref gK, .ref gU, .ref gS, .int gbe, .int gwo, .long gta, .ref gn, .int glr, .int glc, .int gti, .int ggo, .ref gR, .int gch, .ref gD]))], [(gR, .inl (cy 3, gRn, .inr (.inr (.inr (.inr (yad gRd))))))], xg_rows gRd gRn (cy 1) gRk gRG]) := by
  unfold fX9_isNoResult_r at hR
  refine YM.ofZ (cc := cX9_isNoResult) (maxL := 3) (ret := (some .boolean)) (by decide +kernel) rfl (Nat.le_of_ble_eq_true rfl) [(0, .ref g), (1, .int i1), (2, .int i2)] rfl .boolean rfl (fun p e s m args below meth c A H0 Q C hnm ret => ?_)
  refine xr_iload_n (n := 1) (j := 1) C dX9_isNoResult_0 rfl rfl ?_
  refine xr_iconst (n := 2) (v := 0) C dX9_isNoResult_1 rfl rfl ?_
  refine xr_aload_n (n := 3) (j := 0) C dX9_isNoResult_2 rfl rfl ?_
  refine xr_get (n := 6) C 0 rfl rfl 14 (by decide) in_X9 u_1251 rfl (v := .ref gR) rfl dX9_isNoResult_3 rfl ?_
  refine xr_alen (n := 7) C 1 0 rfl 3 rfl rfl dX9_isNoResult_6 rfl ?_
  refine xr_iconst (n := 8) (v := 1) C dX9_isNoResult_7 rfl rfl ?_
  refine xr_isub (n := 9) C dX9_isNoResult_8 rfl ?_
  obtain ⟨x_1, hx_1, hR⟩ := yf_b hR
  refine xr_callSp (n := 12) (As := [.int i1, .int 0, .int ((nI gRn) - 1)]) (rest := []) C (kX9_isIn l D cy (i1 := i1) (i2 := 0) (i3 := (nI gRn) - 1) hx_1) mX9_isIn u_1298 u_1299 3 [] [0, 1, 2] rfl (by decide +kernel) rfl rfl rfl rfl (Nat.le_of_ble_eq_true rfl) (Nat.le_of_ble_eq_true rfl) (Nat.le_of_ble_eq_true rfl) (Nat.le_of_ble_eq_true rfl) (Nat.le_of_ble_eq_true rfl) dX9_isNoResult_9 rfl (fun _ _ hp => hp.2) (fun v_2 hp_4 => ?_)
  obtain ⟨rfl, -⟩ := hp_4
  refine xr_st (st' := [.int x_1]) rfl ?_
  refine xr_if_eq (tgt := 32) (n := 15) C dX9_isNoResult_12 rfl rfl (fun c_5 => ?_) (fun c_5 => ?_)
  · replace hR := yf_t c_5 hR
    refine xr_iconst (n := 33) (v := 1) C dX9_isNoResult_32 rfl rfl ?_
    refine xr_goto (tgt := 37) C dX9_isNoResult_33 rfl ?_
    obtain rfl := Option.some.inj hR
    exact ret 1 (by decide) ⟨rfl, rfl⟩ (Nat.le_of_ble_eq_true rfl) (Nat.le_of_ble_eq_true rfl) dX9_isNoResult_37
  · replace hR := yf_f c_5 hR
    refine xr_iload_n (n := 16) (j := 2) C dX9_isNoResult_15 rfl rfl ?_
    refine xr_iconst (n := 17) (v := 0) C dX9_isNoResult_16 rfl rfl ?_
    refine xr_aload_n (n := 18) (j := 0) C dX9_isNoResult_17 rfl rfl ?_
    refine xr_get (n := 21) C 0 rfl rfl 14 (by decide) in_X9 u_1251 rfl (v := .ref gR) rfl dX9_isNoResult_18 rfl ?_
    refine xr_iconst (n := 22) (v := 0) C dX9_isNoResult_21 rfl rfl ?_
    obtain ⟨g_6, hR⟩ := yf_g hR
    refine xr_aald (n := 23) C 1 0 rfl 3 rfl rfl g_6 rfl dX9_isNoResult_22 rfl ?_
    refine xr_aleng (n := 24) C 2 1 rfl ((0 : Int32).toNatClampNeg) (ylt g_6) rfl dX9_isNoResult_23 rfl ?_
    refine xr_iconst (n := 25) (v := 1) C dX9_isNoResult_24 rfl rfl ?_
    refine xr_isub (n := 26) C dX9_isNoResult_25 rfl ?_
    obtain ⟨x_7, hx_7, hR⟩ := yf_b hR
    refine xr_callSp (n := 29) (As := [.int i2, .int 0, .int ((nI gRk) - 1)]) (rest := []) C (kX9_isIn l D cy (i1 := i2) (i2 := 0) (i3 := (nI gRk) - 1) hx_7) mX9_isIn u_1298 u_1299 3 [] [0, 1, 2] rfl (by decide +kernel) rfl rfl rfl rfl (Nat.le_of_ble_eq_true rfl) (Nat.le_of_ble_eq_true rfl) (Nat.le_of_ble_eq_true rfl) (Nat.le_of_ble_eq_true rfl) (Nat.le_of_ble_eq_true rfl) dX9_isNoResult_26 rfl (fun _ _ hp => hp.2) (fun v_8 hp_10 => ?_)
    obtain ⟨rfl, -⟩ := hp_10
    refine xr_st (st' := [.int x_7]) rfl ?_
    refine xr_if_ne (tgt := 36) (n := 32) C dX9_isNoResult_29 rfl rfl (fun c_11 => ?_) (fun c_11 => ?_)
    · replace hR := yf_f c_11 hR
      refine xr_iconst (n := 37) (v := 0) C dX9_isNoResult_36 rfl rfl ?_
      obtain rfl := Option.some.inj hR
      exact ret 0 (by decide) ⟨rfl, rfl⟩ (Nat.le_of_ble_eq_true rfl) (Nat.le_of_ble_eq_true rfl) dX9_isNoResult_37
    · replace hR := yf_t c_11 hR
      refine xr_iconst (n := 33) (v := 1) C dX9_isNoResult_32 rfl rfl ?_
      refine xr_goto (tgt := 37) C dX9_isNoResult_33 rfl ?_
      obtain rfl := Option.some.inj hR
      exact ret 1 (by decide) ⟨rfl, rfl⟩ (Nat.le_of_ble_eq_true rfl) (Nat.le_of_ble_eq_true rfl) dX9_isNoResult_37
theorem dX9_bend_0 : decode cX9_bend 0 = .ok (.aload_n 0, 1) := by decide +kernel
theorem dX9_bend_1 : decode cX9_bend 1 = .ok (.aload_n 0, 1) := by decide +kernel
theorem dX9_bend_2 : decode cX9_bend 2 = .ok (.iload_n 1, 1) := by decide +kernel
theorem dX9_bend_3 : decode cX9_bend 3 = .ok (.iload_n 2, 1) := by decide +kernel
theorem dX9_bend_4 : decode cX9_bend 4 = .ok (.invokevirtual 228, 3) := by decide +kernel
theorem dX9_bend_7 : decode cX9_bend 7 = .ok (.iconst 1, 1) := by decide +kernel
theorem dX9_bend_8 : decode cX9_bend 8 = .ok (.invokevirtual 79, 3) := by decide +kernel
theorem dX9_bend_11 : decode cX9_bend 11 = .ok (.ifCond .ne 29, 3) := by decide +kernel
theorem dX9_bend_14 : decode cX9_bend 14 = .ok (.aload_n 0, 1) := by decide +kernel
theorem dX9_bend_15 : decode cX9_bend 15 = .ok (.iload_n 3, 1) := by decide +kernel
theorem dX9_bend_16 : decode cX9_bend 16 = .ok (.sipush (-999), 3) := by decide +kernel
theorem dX9_bend_19 : decode cX9_bend 19 = .ok (.sipush 999, 3) := by decide +kernel
theorem dX9_bend_22 : decode cX9_bend 22 = .ok (.invokestatic 75, 3) := by decide +kernel
theorem dX9_bend_25 : decode cX9_bend 25 = .ok (.ifCond .ne 7, 3) := by decide +kernel
theorem dX9_bend_28 : decode cX9_bend 28 = .ok (.iconst 1, 1) := by decide +kernel
theorem dX9_bend_29 : decode cX9_bend 29 = .ok (.goto 4, 3) := by decide +kernel
theorem dX9_bend_32 : decode cX9_bend 32 = .ok (.iconst 0, 1) := by decide +kernel
theorem dX9_bend_33 : decode cX9_bend 33 = .ok (.iconst 2, 1) := by decide +kernel
theorem dX9_bend_34 : decode cX9_bend 34 = .ok (.invokevirtual 67, 3) := by decide +kernel
theorem dX9_bend_37 : decode cX9_bend 37 = .ok (.ifCond .eq 5, 3) := by decide +kernel
theorem dX9_bend_40 : decode cX9_bend 40 = .ok (.iconst 0, 1) := by decide +kernel
theorem dX9_bend_41 : decode cX9_bend 41 = .ok (.ireturn, 1) := by decide +kernel
theorem dX9_bend_42 : decode cX9_bend 42 = .ok (.aload_n 0, 1) := by decide +kernel
theorem dX9_bend_43 : decode cX9_bend 43 = .ok (.getfield 38, 3) := by decide +kernel
theorem dX9_bend_46 : decode cX9_bend 46 = .ok (.iload_n 1, 1) := by decide +kernel
theorem dX9_bend_47 : decode cX9_bend 47 = .ok (.aaload, 1) := by decide +kernel
theorem dX9_bend_48 : decode cX9_bend 48 = .ok (.iload_n 2, 1) := by decide +kernel
theorem dX9_bend_49 : decode cX9_bend 49 = .ok (.dup2, 1) := by decide +kernel
theorem dX9_bend_50 : decode cX9_bend 50 = .ok (.iaload, 1) := by decide +kernel
theorem dX9_bend_51 : decode cX9_bend 51 = .ok (.iload_n 3, 1) := by decide +kernel
theorem dX9_bend_52 : decode cX9_bend 52 = .ok (.iadd, 1) := by decide +kernel
theorem dX9_bend_53 : decode cX9_bend 53 = .ok (.iastore, 1) := by decide +kernel
theorem dX9_bend_54 : decode cX9_bend 54 = .ok (.aload_n 0, 1) := by decide +kernel
theorem dX9_bend_55 : decode cX9_bend 55 = .ok (.getfield 38, 3) := by decide +kernel
theorem dX9_bend_58 : decode cX9_bend 58 = .ok (.iload_n 1, 1) := by decide +kernel
theorem dX9_bend_59 : decode cX9_bend 59 = .ok (.aaload, 1) := by decide +kernel
theorem dX9_bend_60 : decode cX9_bend 60 = .ok (.iload_n 2, 1) := by decide +kernel
theorem dX9_bend_61 : decode cX9_bend 61 = .ok (.iaload, 1) := by decide +kernel
theorem dX9_bend_62 : decode cX9_bend 62 = .ok (.ireturn, 1) := by decide +kernel
def fX9_bend_i (gRn : Nat) (gRk : Nat) (gRG : Nat → Nat → Int32) (i1 : Int32) (i2 : Int32) (i3 : Int32) : Option (Int32 × Int32 × (Nat → Nat → Int32)) := ((fX9_isNoResult_i gRn gRk i1 i2).bind fun x_1 => ((fX9_start_i x_1 1).bind fun x_5 => (if x_5.1 = 0 then ((fX9_isIn i3 (-999) 999).bind fun x_10 => ((((if x_10 = 0 then some 1 else some 0) : Option (Int32))).bind fun r_15 => ((fX9_refuse_i x_5.2 r_15 2).bind fun x_16 => (if x_16.1 = 0 then (if ¬ (i1 < 0 ∨ gRn ≤ i1.toNatClampNeg) then (if ¬ (i2 < 0 ∨ gRk ≤ i2.toNatClampNeg) then (if ¬ (i2 < 0 ∨ gRk ≤ i2.toNatClampNeg) then (if ¬ (i1 < 0 ∨ gRn ≤ i1.toNatClampNeg) then (if ¬ (i2 < 0 ∨ gRk ≤ i2.toNatClampNeg) then some ((upg gRG i1.toNatClampNeg i2.toNatClampNeg ((gRG i1.toNatClampNeg i2.toNatClampNeg) + i3)) i1.toNatClampNeg i2.toNatClampNeg, x_16.2, upg gRG i1.toNatClampNeg i2.toNatClampNeg ((gRG i1.toNatClampNeg i2.toNatClampNeg) + i3)) else none) else none) else none) else none) else none) else some (0, x_16.2, gRG))))) else some (0, x_5.2, gRG))))
abbrev hX9_bend : Cond := .code yX9_bend cX9_bend 4 (some .int)
theorem mX9_bend : yM yX9_bend hX9_bend 3 := ⟨u_1487, u_64, by decide +kernel, by decide +kernel, by decide +kernel⟩
set_option maxHeartbeats 4000000 in
set_option maxRecDepth 100000 in
theorem kX9_bend_i (l : Launch) (D : va_G) (cy : Nat → ClassId) (g : Nat) (gth : Int32) (gw : Nat) (gB : Nat) (gK : Nat) (gU : Nat) (gS : Nat) (gbe : Int32) (gwo : Int32) (gta : Int64) (glr : Int32) (glc : Int32) (gti : Int32) (ggo : Int32) (gR : Nat) (gch : Int32) (gD : Nat) (gRd : Nat → Nat) (gRn : Nat) (gRk : Nat) (gRG : Nat → Nat → Int32) (i1 : Int32) (i2 : Int32) (i3 : Int32) {res : Int32 × Int32 × (Nat → Nat → Int32)} (hR : fX9_bend_i gRn gRk gRG i1 i2 i3 = some res) : YM l D cy yX9_bend hX9_bend 3 0 0 [.ref g, .int i1, .int i2, .int i3] [[(g, .inr (11, [.int gth, .ref gw, .ref gB, .ref gK, .ref gU, .ref gS, .int gbe, .int gwo, .long gta, .null, .int glr, .int glc, .int gti, .int ggo, .ref gR, .int gch, .ref gD]))], [(gR, .inl (cy 3, gRn, .inr (.inr (.inr (.inr (yad gRd))))))], xg_rows gRd gRn (cy 1) gRk gRG] (fun v u => v = some (.int res.1) ∧ u = [[(g, .inr (11, [.int res.2.1, .ref gw, .ref gB, .ref gK, .ref gU, .ref gS, .int gbe, .int gwo, .long gta, .null, .int glr, .int glc, .int gti, .int ggo, .ref gR, .int gch, .ref gD]))], [(gR, .inl (cy 3, gRn, .inr (.inr (.inr (.inr (yad gRd))))))], xg_rows gRd gRn (cy 1) gRk res.2.2]) := by
  unfold fX9_bend_i at hR
  refine YM.ofI (cc := cX9_bend) (maxL := 4) (ret := (some .int)) (by decide +kernel) rfl (Nat.le_of_ble_eq_true rfl) [(0, .ref g), (1, .int i1), (2, .int i2), (3, .int i3)] rfl rfl (fun p e s m args below meth c A H0 Q C hnm ret => ?_)
  refine xr_aload_n (n := 1) (j := 0) C dX9_bend_0 rfl rfl ?_
  refine xr_aload_n (n := 2) (j := 0) C dX9_bend_1 rfl rfl ?_
  refine xr_iload_n (n := 3) (j := 1) C dX9_bend_2 rfl rfl ?_
  refine xr_iload_n (n := 4) (j := 2) C dX9_bend_3 rfl rfl ?_
  obtain ⟨x_1, hx_1, hR⟩ := yf_b hR
  refine xr_callVp (n := 7) (As := [.int i1, .int i2]) (rest := [.ref g]) C (kX9_isNoResult_i l D cy (g := g) (gth := gth) (gw := gw) (gB := gB) (gK := gK) (gU := gU) (gS := gS) (gbe := gbe) (gwo := gwo) (gta := gta) (glr := glr) (glc := glc) (gti := gti) (ggo := ggo) (gR := gR) (gch := gch) (gD := gD) (gRd := gRd) (gRn := gRn) (gRk := gRk) (gRG := gRG) (i1 := i1) (i2 := i2) hx_1) mX9_isNoResult u_1488 u_1490 u_45 0 rfl rfl 3 [0, 1, 2] [] rfl (by decide +kernel) rfl rfl rfl rfl (Nat.le_of_ble_eq_true rfl) (Nat.le_of_ble_eq_true rfl) (Nat.le_of_ble_eq_true rfl) (Nat.le_of_ble_eq_true rfl) (Nat.le_of_ble_eq_true rfl) dX9_bend_4 rfl (fun _ _ hp => hp.2) (fun v_2 hp_4 => ?_)
  obtain ⟨rfl, -⟩ := hp_4
  refine xr_st (st' := [.int x_1, .ref g]) rfl ?_
  refine xr_iconst (n := 8) (v := 1) C dX9_bend_7 rfl rfl ?_
  obtain ⟨x_5, hx_5, hR⟩ := yf_b hR
  refine xr_callV (n := 11) (As := [.int x_1, .int 1]) (rest := []) C (kX9_start_i l D cy (g := g) (gth := gth) (gw := gw) (gB := gB) (gK := gK) (gU := gU) (gS := gS) (gbe := gbe) (gwo := gwo) (gta := gta) (glr := glr) (glc := glc) (gti := gti) (ggo := ggo) (gR := gR) (gch := gch) (gD := gD) (i1 := x_1) (i2 := 1) hx_5) mX9_start u_1301 u_1303 u_29 0 rfl rfl 3 [0] [1, 2] rfl (by decide +kernel) rfl rfl rfl rfl (Nat.le_of_ble_eq_true rfl) (Nat.le_of_ble_eq_true rfl) (Nat.le_of_ble_eq_true rfl) (Nat.le_of_ble_eq_true rfl) (Nat.le_of_ble_eq_true rfl) dX9_bend_8 rfl (fun v_6 u_7 hp_8 => ?_)
  obtain ⟨rfl, rfl⟩ := hp_8
  refine xr_perm C 3 [0, 1, 2] [] [[(g, .inr (11, [.int x_5.2, .ref gw, .ref gB, .ref gK, .ref gU, .ref gS, .int gbe, .int gwo, .long gta, .null, .int glr, .int glc, .int gti, .int ggo, .ref gR, .int gch, .ref gD]))], [(gR, .inl (cy 3, gRn, .inr (.inr (.inr (.inr (yad gRd))))))], xg_rows gRd gRn (cy 1) gRk gRG] rfl (by decide +kernel) rfl ?_
  refine xr_st (st' := [.int x_5.1]) rfl ?_
  refine xr_if_ne (tgt := 40) (n := 14) C dX9_bend_11 rfl rfl (fun c_9 => ?_) (fun c_9 => ?_)
  · replace hR := yf_f c_9 hR
    refine xr_iconst (n := 41) (v := 0) C dX9_bend_40 rfl rfl ?_
    obtain rfl := Option.some.inj hR
    exact ret 0 ⟨rfl, rfl⟩ (Nat.le_of_ble_eq_true rfl) (Nat.le_of_ble_eq_true rfl) dX9_bend_41
  · replace hR := yf_t c_9 hR
    refine xr_aload_n (n := 15) (j := 0) C dX9_bend_14 rfl rfl ?_
    refine xr_iload_n (n := 16) (j := 3) C dX9_bend_15 rfl rfl ?_
    refine xr_sipush (n := 19) (v := -999) C dX9_bend_16 rfl rfl ?_
    refine xr_sipush (n := 22) (v := 999) C dX9_bend_19 rfl rfl ?_
    obtain ⟨x_10, hx_10, hR⟩ := yf_b hR
    refine xr_callSp (n := 25) (As := [.int i3, .int (-999), .int 999]) (rest := [.ref g]) C (kX9_isIn l D cy (i1 := i3) (i2 := -999) (i3 := 999) hx_10) mX9_isIn u_1298 u_1299 3 [] [0, 1, 2] rfl (by decide +kernel) rfl rfl rfl rfl (Nat.le_of_ble_eq_true rfl) (Nat.le_of_ble_eq_true rfl) (Nat.le_of_ble_eq_true rfl) (Nat.le_of_ble_eq_true rfl) (Nat.le_of_ble_eq_true rfl) dX9_bend_22 rfl (fun _ _ hp => hp.2) (fun v_11 hp_13 => ?_)
    obtain ⟨rfl, -⟩ := hp_13
    refine xr_st (st' := [.int x_10, .ref g]) rfl ?_
    obtain ⟨r_15, hE_15, hR⟩ := yf_b hR
    have J_15 : X p l e (yR 3 0 0) s m args below meth c D A H0 4 Q [[(g, .inr (11, [.int x_5.2, .ref gw, .ref gB, .ref gK, .ref gU, .ref gS, .int gbe, .int gwo, .long gta, .null, .int glr, .int glc, .int gti, .int ggo, .ref gR, .int gch, .ref gD]))], [(gR, .inl (cy 3, gRn, .inr (.inr (.inr (.inr (yad gRd))))))], xg_rows gRd gRn (cy 1) gRk gRG] 0 0 [(0, .ref g), (1, .int i1), (2, .int i2), (3, .int i3)] 33 [.int r_15, .ref g] := by
      refine xr_iconst (n := 34) (v := 2) C dX9_bend_33 rfl rfl ?_
      obtain ⟨x_16, hx_16, hR⟩ := yf_b hR
      refine xr_callV (n := 37) (As := [.int r_15, .int 2]) (rest := []) C (kX9_refuse_i l D cy (g := g) (gth := x_5.2) (gw := gw) (gB := gB) (gK := gK) (gU := gU) (gS := gS) (gbe := gbe) (gwo := gwo) (gta := gta) (glr := glr) (glc := glc) (gti := gti) (ggo := ggo) (gR := gR) (gch := gch) (gD := gD) (i1 := r_15) (i2 := 2) hx_16) mX9_refuse u_1305 u_1307 u_30 0 rfl rfl 3 [0] [1, 2] rfl (by decide +kernel) rfl rfl rfl rfl (Nat.le_of_ble_eq_true rfl) (Nat.le_of_ble_eq_true rfl) (Nat.le_of_ble_eq_true rfl) (Nat.le_of_ble_eq_true rfl) (Nat.le_of_ble_eq_true rfl) dX9_bend_34 rfl (fun v_17 u_18 hp_19 => ?_)
      obtain ⟨rfl, rfl⟩ := hp_19
      refine xr_perm C 3 [0, 1, 2] [] [[(g, .inr (11, [.int x_16.2, .ref gw, .ref gB, .ref gK, .ref gU, .ref gS, .int gbe, .int gwo, .long gta, .null, .int glr, .int glc, .int gti, .int ggo, .ref gR, .int gch, .ref gD]))], [(gR, .inl (cy 3, gRn, .inr (.inr (.inr (.inr (yad gRd))))))], xg_rows gRd gRn (cy 1) gRk gRG] rfl (by decide +kernel) rfl ?_
      refine xr_st (st' := [.int x_16.1]) rfl ?_
      refine xr_if_eq (tgt := 42) (n := 40) C dX9_bend_37 rfl rfl (fun c_20 => ?_) (fun c_20 => ?_)
      · replace hR := yf_t c_20 hR
        refine xr_aload_n (n := 43) (j := 0) C dX9_bend_42 rfl rfl ?_
        refine xr_get (n := 46) C 0 rfl rfl 14 (by decide) in_X9 u_1251 rfl (v := .ref gR) rfl dX9_bend_43 rfl ?_
        refine xr_iload_n (n := 47) (j := 1) C dX9_bend_46 rfl rfl ?_
        obtain ⟨g_21, hR⟩ := yf_g hR
        refine xr_aald (n := 48) C 1 0 rfl 3 rfl rfl g_21 rfl dX9_bend_47 rfl ?_
        refine xr_iload_n (n := 49) (j := 2) C dX9_bend_48 rfl rfl ?_
        refine xr_dup2 (n := 50) C dX9_bend_49 rfl rfl rfl ?_
        obtain ⟨g_22, hR⟩ := yf_g hR
        refine xr_ialdg (n := 51) C 2 rfl i1.toNatClampNeg (ylt g_21) g_22 dX9_bend_50 rfl ?_
        refine xr_iload_n (n := 52) (j := 3) C dX9_bend_51 rfl rfl ?_
        refine xr_iadd (n := 53) C dX9_bend_52 rfl ?_
        obtain ⟨g_23, hR⟩ := yf_g hR
        refine xr_iastg (n := 54) C 2 rfl i1.toNatClampNeg (ylt g_21) g_23 [[(g, .inr (11, [.int x_16.2, .ref gw, .ref gB, .ref gK, .ref gU, .ref gS, .int gbe, .int gwo, .long gta, .null, .int glr, .int glc, .int gti, .int ggo, .ref gR, .int gch, .ref gD]))], [(gR, .inl (cy 3, gRn, .inr (.inr (.inr (.inr (yad gRd))))))], xg_rows gRd gRn (cy 1) gRk (upg gRG i1.toNatClampNeg i2.toNatClampNeg ((gRG i1.toNatClampNeg i2.toNatClampNeg) + i3))] rfl dX9_bend_53 rfl ?_
        refine xr_aload_n (n := 55) (j := 0) C dX9_bend_54 rfl rfl ?_
        refine xr_get (n := 58) C 0 rfl rfl 14 (by decide) in_X9 u_1251 rfl (v := .ref gR) rfl dX9_bend_55 rfl ?_
        refine xr_iload_n (n := 59) (j := 1) C dX9_bend_58 rfl rfl ?_
        obtain ⟨g_24, hR⟩ := yf_g hR
        refine xr_aald (n := 60) C 1 0 rfl 3 rfl rfl g_24 rfl dX9_bend_59 rfl ?_
        refine xr_iload_n (n := 61) (j := 2) C dX9_bend_60 rfl rfl ?_
        obtain ⟨g_25, hR⟩ := yf_g hR
        refine xr_ialdg (n := 62) C 2 rfl i1.toNatClampNeg (ylt g_24) g_25 dX9_bend_61 rfl ?_
        obtain rfl := Option.some.inj hR
        exact ret ((upg gRG i1.toNatClampNeg i2.toNatClampNeg ((gRG i1.toNatClampNeg i2.toNatClampNeg) + i3)) i1.toNatClampNeg i2.toNatClampNeg) ⟨rfl, rfl⟩ (Nat.le_of_ble_eq_true rfl) (Nat.le_of_ble_eq_true rfl) dX9_bend_62
      · replace hR := yf_f c_20 hR
        refine xr_iconst (n := 41) (v := 0) C dX9_bend_40 rfl rfl ?_
        obtain rfl := Option.some.inj hR
        exact ret 0 ⟨rfl, rfl⟩ (Nat.le_of_ble_eq_true rfl) (Nat.le_of_ble_eq_true rfl) dX9_bend_41
    refine xr_if_ne (tgt := 32) (n := 28) C dX9_bend_25 rfl rfl (fun c_26 => ?_) (fun c_26 => ?_)
    · replace hE_15 := yf_f c_26 hE_15
      refine xr_iconst (n := 33) (v := 0) C dX9_bend_32 rfl rfl ?_
      have e_27 := Option.some.inj hE_15
      subst e_27
      exact J_15
    · replace hE_15 := yf_t c_26 hE_15
      refine xr_iconst (n := 29) (v := 1) C dX9_bend_28 rfl rfl ?_
      refine xr_goto (tgt := 33) C dX9_bend_29 rfl ?_
      have e_28 := Option.some.inj hE_15
      subst e_28
      exact J_15
def fX9_bend_r (gRn : Nat) (gRk : Nat) (gRG : Nat → Nat → Int32) (i1 : Int32) (i2 : Int32) (i3 : Int32) : Option (Int32 × Int32 × (Nat → Nat → Int32)) := ((fX9_isNoResult_r gRn gRk i1 i2).bind fun x_1 => ((fX9_start_r x_1 1).bind fun x_5 => (if x_5.1 = 0 then ((fX9_isIn i3 (-999) 999).bind fun x_10 => ((((if x_10 = 0 then some 1 else some 0) : Option (Int32))).bind fun r_15 => ((fX9_refuse_r x_5.2 r_15 2).bind fun x_16 => (if x_16.1 = 0 then (if ¬ (i1 < 0 ∨ gRn ≤ i1.toNatClampNeg) then (if ¬ (i2 < 0 ∨ gRk ≤ i2.toNatClampNeg) then (if ¬ (i2 < 0 ∨ gRk ≤ i2.toNatClampNeg) then (if ¬ (i1 < 0 ∨ gRn ≤ i1.toNatClampNeg) then (if ¬ (i2 < 0 ∨ gRk ≤ i2.toNatClampNeg) then some ((upg gRG i1.toNatClampNeg i2.toNatClampNeg ((gRG i1.toNatClampNeg i2.toNatClampNeg) + i3)) i1.toNatClampNeg i2.toNatClampNeg, x_16.2, upg gRG i1.toNatClampNeg i2.toNatClampNeg ((gRG i1.toNatClampNeg i2.toNatClampNeg) + i3)) else none) else none) else none) else none) else none) else some (0, x_16.2, gRG))))) else some (0, x_5.2, gRG))))
set_option maxHeartbeats 4000000 in
set_option maxRecDepth 100000 in
theorem kX9_bend_r (l : Launch) (D : va_G) (cy : Nat → ClassId) (g : Nat) (gth : Int32) (gw : Nat) (gB : Nat) (gK : Nat) (gU : Nat) (gS : Nat) (gbe : Int32) (gwo : Int32) (gta : Int64) (gn : Nat) (glr : Int32) (glc : Int32) (gti : Int32) (ggo : Int32) (gR : Nat) (gch : Int32) (gD : Nat) (gRd : Nat → Nat) (gRn : Nat) (gRk : Nat) (gRG : Nat → Nat → Int32) (i1 : Int32) (i2 : Int32) (i3 : Int32) {res : Int32 × Int32 × (Nat → Nat → Int32)} (hR : fX9_bend_r gRn gRk gRG i1 i2 i3 = some res) : YM l D cy yX9_bend hX9_bend 3 0 0 [.ref g, .int i1, .int i2, .int i3] [[(g, .inr (11, [.int gth, .ref gw, .ref gB, .ref gK, .ref gU, .ref gS, .int gbe, .int gwo, .long gta, .ref gn, .int glr, .int glc, .int gti, .int ggo, .ref gR, .int gch, .ref gD]))], [(gR, .inl (cy 3, gRn, .inr (.inr (.inr (.inr (yad gRd))))))], xg_rows gRd gRn (cy 1) gRk gRG] (fun v u => v = some (.int res.1) ∧ u = [[(g, .inr (11, [.int res.2.1, .ref gw, .ref gB, .ref gK, .ref gU, .ref gS, .int gbe, .int gwo, .long gta, .ref gn, .int glr, .int glc, .int gti, .int ggo, .ref gR, .int gch, .ref gD]))], [(gR, .inl (cy 3, gRn, .inr (.inr (.inr (.inr (yad gRd))))))], xg_rows gRd gRn (cy 1) gRk res.2.2]) := by
  unfold fX9_bend_r at hR
  refine YM.ofI (cc := cX9_bend) (maxL := 4) (ret := (some .int)) (by decide +kernel) rfl (Nat.le_of_ble_eq_true rfl) [(0, .ref g), (1, .int i1), (2, .int i2), (3, .int i3)] rfl rfl (fun p e s m args below meth c A H0 Q C hnm ret => ?_)
  refine xr_aload_n (n := 1) (j := 0) C dX9_bend_0 rfl rfl ?_
  refine xr_aload_n (n := 2) (j := 0) C dX9_bend_1 rfl rfl ?_
  refine xr_iload_n (n := 3) (j := 1) C dX9_bend_2 rfl rfl ?_
  refine xr_iload_n (n := 4) (j := 2) C dX9_bend_3 rfl rfl ?_
  obtain ⟨x_1, hx_1, hR⟩ := yf_b hR
  refine xr_callVp (n := 7) (As := [.int i1, .int i2]) (rest := [.ref g]) C (kX9_isNoResult_r l D cy (g := g) (gth := gth) (gw := gw) (gB := gB) (gK := gK) (gU := gU) (gS := gS) (gbe := gbe) (gwo := gwo) (gta := gta) (gn := gn) (glr := glr) (glc := glc) (gti := gti) (ggo := ggo) (gR := gR) (gch := gch) (gD := gD) (gRd := gRd) (gRn := gRn) (gRk := gRk) (gRG := gRG) (i1 := i1) (i2 := i2) hx_1) mX9_isNoResult u_1488 u_1490 u_45 0 rfl rfl 3 [0, 1, 2] [] rfl (by decide +kernel) rfl rfl rfl rfl (Nat.le_of_ble_eq_true rfl) (Nat.le_of_ble_eq_true rfl) (Nat.le_of_ble_eq_true rfl) (Nat.le_of_ble_eq_true rfl) (Nat.le_of_ble_eq_true rfl) dX9_bend_4 rfl (fun _ _ hp => hp.2) (fun v_2 hp_4 => ?_)
  obtain ⟨rfl, -⟩ := hp_4
  refine xr_st (st' := [.int x_1, .ref g]) rfl ?_
  refine xr_iconst (n := 8) (v := 1) C dX9_bend_7 rfl rfl ?_
  obtain ⟨x_5, hx_5, hR⟩ := yf_b hR
  refine xr_callV (n := 11) (As := [.int x_1, .int 1]) (rest := []) C (kX9_start_r l D cy (g := g) (gth := gth) (gw := gw) (gB := gB) (gK := gK) (gU := gU) (gS := gS) (gbe := gbe) (gwo := gwo) (gta := gta) (gn := gn) (glr := glr) (glc := glc) (gti := gti) (ggo := ggo) (gR := gR) (gch := gch) (gD := gD) (i1 := x_1) (i2 := 1) hx_5) mX9_start u_1301 u_1303 u_29 0 rfl rfl 3 [0] [1, 2] rfl (by decide +kernel) rfl rfl rfl rfl (Nat.le_of_ble_eq_true rfl) (Nat.le_of_ble_eq_true rfl) (Nat.le_of_ble_eq_true rfl) (Nat.le_of_ble_eq_true rfl) (Nat.le_of_ble_eq_true rfl) dX9_bend_8 rfl (fun v_6 u_7 hp_8 => ?_)
  obtain ⟨rfl, rfl⟩ := hp_8
  refine xr_perm C 3 [0, 1, 2] [] [[(g, .inr (11, [.int x_5.2, .ref gw, .ref gB, .ref gK, .ref gU, .ref gS, .int gbe, .int gwo, .long gta, .ref gn, .int glr, .int glc, .int gti, .int ggo, .ref gR, .int gch, .ref gD]))], [(gR, .inl (cy 3, gRn, .inr (.inr (.inr (.inr (yad gRd))))))], xg_rows gRd gRn (cy 1) gRk gRG] rfl (by decide +kernel) rfl ?_
  refine xr_st (st' := [.int x_5.1]) rfl ?_
  refine xr_if_ne (tgt := 40) (n := 14) C dX9_bend_11 rfl rfl (fun c_9 => ?_) (fun c_9 => ?_)
  · replace hR := yf_f c_9 hR
    refine xr_iconst (n := 41) (v := 0) C dX9_bend_40 rfl rfl ?_
    obtain rfl := Option.some.inj hR
    exact ret 0 ⟨rfl, rfl⟩ (Nat.le_of_ble_eq_true rfl) (Nat.le_of_ble_eq_true rfl) dX9_bend_41
  · replace hR := yf_t c_9 hR
    refine xr_aload_n (n := 15) (j := 0) C dX9_bend_14 rfl rfl ?_
    refine xr_iload_n (n := 16) (j := 3) C dX9_bend_15 rfl rfl ?_
    refine xr_sipush (n := 19) (v := -999) C dX9_bend_16 rfl rfl ?_
    refine xr_sipush (n := 22) (v := 999) C dX9_bend_19 rfl rfl ?_
    obtain ⟨x_10, hx_10, hR⟩ := yf_b hR
    refine xr_callSp (n := 25) (As := [.int i3, .int (-999), .int 999]) (rest := [.ref g]) C (kX9_isIn l D cy (i1 := i3) (i2 := -999) (i3 := 999) hx_10) mX9_isIn u_1298 u_1299 3 [] [0, 1, 2] rfl (by decide +kernel) rfl rfl rfl rfl (Nat.le_of_ble_eq_true rfl) (Nat.le_of_ble_eq_true rfl) (Nat.le_of_ble_eq_true rfl) (Nat.le_of_ble_eq_true rfl) (Nat.le_of_ble_eq_true rfl) dX9_bend_22 rfl (fun _ _ hp => hp.2) (fun v_11 hp_13 => ?_)
    obtain ⟨rfl, -⟩ := hp_13
    refine xr_st (st' := [.int x_10, .ref g]) rfl ?_
    obtain ⟨r_15, hE_15, hR⟩ := yf_b hR
    have J_15 : X p l e (yR 3 0 0) s m args below meth c D A H0 4 Q [[(g, .inr (11, [.int x_5.2, .ref gw, .ref gB, .ref gK, .ref gU, .ref gS, .int gbe, .int gwo, .long gta, .ref gn, .int glr, .int glc, .int gti, .int ggo, .ref gR, .int gch, .ref gD]))], [(gR, .inl (cy 3, gRn, .inr (.inr (.inr (.inr (yad gRd))))))], xg_rows gRd gRn (cy 1) gRk gRG] 0 0 [(0, .ref g), (1, .int i1), (2, .int i2), (3, .int i3)] 33 [.int r_15, .ref g] := by
      refine xr_iconst (n := 34) (v := 2) C dX9_bend_33 rfl rfl ?_
      obtain ⟨x_16, hx_16, hR⟩ := yf_b hR
      refine xr_callV (n := 37) (As := [.int r_15, .int 2]) (rest := []) C (kX9_refuse_r l D cy (g := g) (gth := x_5.2) (gw := gw) (gB := gB) (gK := gK) (gU := gU) (gS := gS) (gbe := gbe) (gwo := gwo) (gta := gta) (gn := gn) (glr := glr) (glc := glc) (gti := gti) (ggo := ggo) (gR := gR) (gch := gch) (gD := gD) (i1 := r_15) (i2 := 2) hx_16) mX9_refuse u_1305 u_1307 u_30 0 rfl rfl 3 [0] [1, 2] rfl (by decide +kernel) rfl rfl rfl rfl (Nat.le_of_ble_eq_true rfl) (Nat.le_of_ble_eq_true rfl) (Nat.le_of_ble_eq_true rfl) (Nat.le_of_ble_eq_true rfl) (Nat.le_of_ble_eq_true rfl) dX9_bend_34 rfl (fun v_17 u_18 hp_19 => ?_)
      obtain ⟨rfl, rfl⟩ := hp_19
      refine xr_perm C 3 [0, 1, 2] [] [[(g, .inr (11, [.int x_16.2, .ref gw, .ref gB, .ref gK, .ref gU, .ref gS, .int gbe, .int gwo, .long gta, .ref gn, .int glr, .int glc, .int gti, .int ggo, .ref gR, .int gch, .ref gD]))], [(gR, .inl (cy 3, gRn, .inr (.inr (.inr (.inr (yad gRd))))))], xg_rows gRd gRn (cy 1) gRk gRG] rfl (by decide +kernel) rfl ?_
      refine xr_st (st' := [.int x_16.1]) rfl ?_
      refine xr_if_eq (tgt := 42) (n := 40) C dX9_bend_37 rfl rfl (fun c_20 => ?_) (fun c_20 => ?_)
      · replace hR := yf_t c_20 hR
        refine xr_aload_n (n := 43) (j := 0) C dX9_bend_42 rfl rfl ?_
        refine xr_get (n := 46) C 0 rfl rfl 14 (by decide) in_X9 u_1251 rfl (v := .ref gR) rfl dX9_bend_43 rfl ?_
        refine xr_iload_n (n := 47) (j := 1) C dX9_bend_46 rfl rfl ?_
        obtain ⟨g_21, hR⟩ := yf_g hR
        refine xr_aald (n := 48) C 1 0 rfl 3 rfl rfl g_21 rfl dX9_bend_47 rfl ?_
        refine xr_iload_n (n := 49) (j := 2) C dX9_bend_48 rfl rfl ?_
        refine xr_dup2 (n := 50) C dX9_bend_49 rfl rfl rfl ?_
        obtain ⟨g_22, hR⟩ := yf_g hR
        refine xr_ialdg (n := 51) C 2 rfl i1.toNatClampNeg (ylt g_21) g_22 dX9_bend_50 rfl ?_
        refine xr_iload_n (n := 52) (j := 3) C dX9_bend_51 rfl rfl ?_
        refine xr_iadd (n := 53) C dX9_bend_52 rfl ?_
        obtain ⟨g_23, hR⟩ := yf_g hR
        refine xr_iastg (n := 54) C 2 rfl i1.toNatClampNeg (ylt g_21) g_23 [[(g, .inr (11, [.int x_16.2, .ref gw, .ref gB, .ref gK, .ref gU, .ref gS, .int gbe, .int gwo, .long gta, .ref gn, .int glr, .int glc, .int gti, .int ggo, .ref gR, .int gch, .ref gD]))], [(gR, .inl (cy 3, gRn, .inr (.inr (.inr (.inr (yad gRd))))))], xg_rows gRd gRn (cy 1) gRk (upg gRG i1.toNatClampNeg i2.toNatClampNeg ((gRG i1.toNatClampNeg i2.toNatClampNeg) + i3))] rfl dX9_bend_53 rfl ?_
        refine xr_aload_n (n := 55) (j := 0) C dX9_bend_54 rfl rfl ?_
        refine xr_get (n := 58) C 0 rfl rfl 14 (by decide) in_X9 u_1251 rfl (v := .ref gR) rfl dX9_bend_55 rfl ?_
        refine xr_iload_n (n := 59) (j := 1) C dX9_bend_58 rfl rfl ?_
        obtain ⟨g_24, hR⟩ := yf_g hR
        refine xr_aald (n := 60) C 1 0 rfl 3 rfl rfl g_24 rfl dX9_bend_59 rfl ?_
        refine xr_iload_n (n := 61) (j := 2) C dX9_bend_60 rfl rfl ?_
        obtain ⟨g_25, hR⟩ := yf_g hR
        refine xr_ialdg (n := 62) C 2 rfl i1.toNatClampNeg (ylt g_24) g_25 dX9_bend_61 rfl ?_
        obtain rfl := Option.some.inj hR
        exact ret ((upg gRG i1.toNatClampNeg i2.toNatClampNeg ((gRG i1.toNatClampNeg i2.toNatClampNeg) + i3)) i1.toNatClampNeg i2.toNatClampNeg) ⟨rfl, rfl⟩ (Nat.le_of_ble_eq_true rfl) (Nat.le_of_ble_eq_true rfl) dX9_bend_62
      · replace hR := yf_f c_20 hR
        refine xr_iconst (n := 41) (v := 0) C dX9_bend_40 rfl rfl ?_
        obtain rfl := Option.some.inj hR
        exact ret 0 ⟨rfl, rfl⟩ (Nat.le_of_ble_eq_true rfl) (Nat.le_of_ble_eq_true rfl) dX9_bend_41
    refine xr_if_ne (tgt := 32) (n := 28) C dX9_bend_25 rfl rfl (fun c_26 => ?_) (fun c_26 => ?_)
    · replace hE_15 := yf_f c_26 hE_15
      refine xr_iconst (n := 33) (v := 0) C dX9_bend_32 rfl rfl ?_
      have e_27 := Option.some.inj hE_15
      subst e_27
      exact J_15
    · replace hE_15 := yf_t c_26 hE_15
      refine xr_iconst (n := 29) (v := 1) C dX9_bend_28 rfl rfl ?_
      refine xr_goto (tgt := 33) C dX9_bend_29 rfl ?_
      have e_28 := Option.some.inj hE_15
      subst e_28
      exact J_15
