theorem u_1443 : Cond.methodLink RX9 161 yX9_tileRows ∈ yU := yu_tables_1_6 187 (by decide +kernel) (by decide +kernel)
theorem u_1445 : Cond.instanceMethod yX9_tileRows ∈ yU := yu_tables_1_6 189 (by decide +kernel) (by decide +kernel)
theorem u_40 : Cond.selects RX9 yX9_tileRows yX9_tileRows ∈ yU := yu 40 (by decide +kernel) (by decide +kernel)
theorem u_1447 : Cond.methodLink RX9 164 yX9_tileColumns ∈ yU := yu_tables_1_6 191 (by decide +kernel) (by decide +kernel)
theorem u_1449 : Cond.instanceMethod yX9_tileColumns ∈ yU := yu_tables_1_6 193 (by decide +kernel) (by decide +kernel)
theorem u_41 : Cond.selects RX9 yX9_tileColumns yX9_tileColumns ∈ yU := yu 41 (by decide +kernel) (by decide +kernel)
theorem u_1359 : Cond.methodLink RX9 120 yX8_steps ∈ yU := yu_tables_1_6 103 (by decide +kernel) (by decide +kernel)
theorem u_1360 : Cond.instanceMethod yX8_steps ∈ yU := yu_tables_1_6 104 (by decide +kernel) (by decide +kernel)
theorem u_1361 : Cond.selects RX8 yX8_steps yX8_steps ∈ yU := yu_tables_1_6 105 (by decide +kernel) (by decide +kernel)
theorem u_1479 : Cond.code yX9_tileBeats cX9_tileBeats 1 (some .int) ∈ yU := yu_tables_1_6 223 (by decide +kernel) (by decide +kernel)
theorem u_1250 : Cond.fieldLink RX9 167 "PulsemeshModel" "gone" "I" ∈ yU := yu_tables_1_5 234 (by decide +kernel) (by decide +kernel)
theorem u_1242 : Cond.fieldLink RX9 35 "PulsemeshModel" "sums" "[[I" ∈ yU := yu_tables_1_5 226 (by decide +kernel) (by decide +kernel)
theorem u_1414 : Cond.methodLink RX9 170 yX8_first ∈ yU := yu_tables_1_6 158 (by decide +kernel) (by decide +kernel)
theorem u_1413 : Cond.code yX9_begin cX9_begin 6 none ∈ yU := yu_tables_1_6 157 (by decide +kernel) (by decide +kernel)
theorem u_1425 : Cond.code yX9_beatsFrom cX9_beatsFrom 4 (some .int) ∈ yU := yu_tables_1_6 169 (by decide +kernel) (by decide +kernel)
theorem u_1421 : Cond.code yX9_left_ cX9_left_ 1 (some .int) ∈ yU := yu_tables_1_6 165 (by decide +kernel) (by decide +kernel)
theorem u_1422 : Cond.methodLink RX9 190 yX9_beatsFrom ∈ yU := yu_tables_1_6 166 (by decide +kernel) (by decide +kernel)
theorem u_1424 : Cond.instanceMethod yX9_beatsFrom ∈ yU := yu_tables_1_6 168 (by decide +kernel) (by decide +kernel)
theorem u_36 : Cond.selects RX9 yX9_beatsFrom yX9_beatsFrom ∈ yU := yu 36 (by decide +kernel) (by decide +kernel)
theorem u_1454 : Cond.code yX9_stepTaken cX9_stepTaken 4 (some .int) ∈ yU := yu_tables_1_6 198 (by decide +kernel) (by decide +kernel)
theorem dX9_tileBeats_0 : decode cX9_tileBeats 0 = .ok (.aload_n 0, 1) := by decide +kernel
theorem dX9_tileBeats_1 : decode cX9_tileBeats 1 = .ok (.invokevirtual 161, 3) := by decide +kernel
theorem dX9_tileBeats_4 : decode cX9_tileBeats 4 = .ok (.aload_n 0, 1) := by decide +kernel
theorem dX9_tileBeats_5 : decode cX9_tileBeats 5 = .ok (.invokevirtual 164, 3) := by decide +kernel
theorem dX9_tileBeats_8 : decode cX9_tileBeats 8 = .ok (.iadd, 1) := by decide +kernel
theorem dX9_tileBeats_9 : decode cX9_tileBeats 9 = .ok (.aload_n 0, 1) := by decide +kernel
theorem dX9_tileBeats_10 : decode cX9_tileBeats 10 = .ok (.getfield 137, 3) := by decide +kernel
theorem dX9_tileBeats_13 : decode cX9_tileBeats 13 = .ok (.invokevirtual 120, 3) := by decide +kernel
theorem dX9_tileBeats_16 : decode cX9_tileBeats 16 = .ok (.iadd, 1) := by decide +kernel
theorem dX9_tileBeats_17 : decode cX9_tileBeats 17 = .ok (.iconst 1, 1) := by decide +kernel
theorem dX9_tileBeats_18 : decode cX9_tileBeats 18 = .ok (.isub, 1) := by decide +kernel
theorem dX9_tileBeats_19 : decode cX9_tileBeats 19 = .ok (.ireturn, 1) := by decide +kernel
def fX9_tileBeats (glr : Int32) (glc : Int32) (gti : Int32) (gnr : Int32) (gnk : Int32) (gnc : Int32) (gng : Int32) (gns : Int32) (gnan : Nat) (gnak : Nat) (gnaG : Nat → Nat → Int32) (gnbn : Nat) (gnbk : Nat) (gnbG : Nat → Nat → Int32) : Option (Int32) := ((fX9_tileRows glr glc gti gnr gnc gns).bind fun x_1 => ((fX9_tileColumns glc gti gnc gns).bind fun x_5 => ((fX8_steps gnk gng gnan gnak gnaG gnbn gnbk gnbG).bind fun x_9 => some (((x_1 + x_5) + x_9) - 1))))
abbrev hX9_tileBeats : Cond := .code yX9_tileBeats cX9_tileBeats 1 (some .int)
theorem mX9_tileBeats : yM yX9_tileBeats hX9_tileBeats 0 := ⟨u_1479, u_64, by decide +kernel, by decide +kernel, by decide +kernel⟩
set_option maxHeartbeats 4000000 in
set_option maxRecDepth 100000 in
theorem kX9_tileBeats (l : Launch) (D : va_G) (cy : Nat → ClassId) (g : Nat) (gth : Int32) (gw : Nat) (gB : Nat) (gK : Nat) (gU : Nat) (gS : Nat) (gbe : Int32) (gwo : Int32) (gta : Int64) (gn : Nat) (glr : Int32) (glc : Int32) (gti : Int32) (ggo : Int32) (gR : Nat) (gch : Int32) (gD : Nat) (gnr : Int32) (gnk : Int32) (gnc : Int32) (gng : Int32) (gns : Int32) (gna : Nat) (gnb : Nat) (gnad : Nat → Nat) (gnan : Nat) (gnak : Nat) (gnaG : Nat → Nat → Int32) (gnbd : Nat → Nat) (gnbn : Nat) (gnbk : Nat) (gnbG : Nat → Nat → Int32) {res : Int32} (hR : fX9_tileBeats glr glc gti gnr gnk gnc gng gns gnan gnak gnaG gnbn gnbk gnbG = some res) : YM l D cy yX9_tileBeats hX9_tileBeats 4 0 0 [.ref g] [[(g, .inr (11, [.int gth, .ref gw, .ref gB, .ref gK, .ref gU, .ref gS, .int gbe, .int gwo, .long gta, .ref gn, .int glr, .int glc, .int gti, .int ggo, .ref gR, .int gch, .ref gD]))], [(gn, .inr (10, [.int gnr, .int gnk, .int gnc, .int gng, .int gns, .ref gna, .ref gnb]))], [(gna, .inl (cy 3, gnan, .inr (.inr (.inr (.inr (yad gnad))))))], xg_rows gnad gnan (cy 1) gnak gnaG, [(gnb, .inl (cy 3, gnbn, .inr (.inr (.inr (.inr (yad gnbd))))))], xg_rows gnbd gnbn (cy 1) gnbk gnbG] (fun v u => v = some (.int res) ∧ u = [[(g, .inr (11, [.int gth, .ref gw, .ref gB, .ref gK, .ref gU, .ref gS, .int gbe, .int gwo, .long gta, .ref gn, .int glr, .int glc, .int gti, .int ggo, .ref gR, .int gch, .ref gD]))], [(gn, .inr (10, [.int gnr, .int gnk, .int gnc, .int gng, .int gns, .ref gna, .ref gnb]))], [(gna, .inl (cy 3, gnan, .inr (.inr (.inr (.inr (yad gnad))))))], xg_rows gnad gnan (cy 1) gnak gnaG, [(gnb, .inl (cy 3, gnbn, .inr (.inr (.inr (.inr (yad gnbd))))))], xg_rows gnbd gnbn (cy 1) gnbk gnbG]) := by
  unfold fX9_tileBeats at hR
  refine YM.ofI (cc := cX9_tileBeats) (maxL := 1) (ret := (some .int)) (by decide +kernel) rfl (Nat.le_of_ble_eq_true rfl) [(0, .ref g)] rfl rfl (fun p e s m args below meth c A H0 Q C hnm ret => ?_)
  refine xr_aload_n (n := 1) (j := 0) C dX9_tileBeats_0 rfl rfl ?_
  obtain ⟨x_1, hx_1, hR⟩ := yf_b hR
  refine xr_callVp (n := 4) (As := []) (rest := []) C (kX9_tileRows l D cy (g := g) (gth := gth) (gw := gw) (gB := gB) (gK := gK) (gU := gU) (gS := gS) (gbe := gbe) (gwo := gwo) (gta := gta) (gn := gn) (glr := glr) (glc := glc) (gti := gti) (ggo := ggo) (gR := gR) (gch := gch) (gD := gD) (gnr := gnr) (gnk := gnk) (gnc := gnc) (gng := gng) (gns := gns) (gna := gna) (gnb := gnb) hx_1) mX9_tileRows u_1443 u_1445 u_40 0 rfl rfl 6 [0, 1] [2, 3, 4, 5] rfl (by decide +kernel) rfl rfl rfl rfl (Nat.le_of_ble_eq_true rfl) (Nat.le_of_ble_eq_true rfl) (Nat.le_of_ble_eq_true rfl) (Nat.le_of_ble_eq_true rfl) (Nat.le_of_ble_eq_true rfl) dX9_tileBeats_1 rfl (fun _ _ hp => hp.2) (fun v_2 hp_4 => ?_)
  obtain ⟨rfl, -⟩ := hp_4
  refine xr_st (st' := [.int x_1]) rfl ?_
  refine xr_aload_n (n := 5) (j := 0) C dX9_tileBeats_4 rfl rfl ?_
  obtain ⟨x_5, hx_5, hR⟩ := yf_b hR
  refine xr_callVp (n := 8) (As := []) (rest := [.int x_1]) C (kX9_tileColumns l D cy (g := g) (gth := gth) (gw := gw) (gB := gB) (gK := gK) (gU := gU) (gS := gS) (gbe := gbe) (gwo := gwo) (gta := gta) (gn := gn) (glr := glr) (glc := glc) (gti := gti) (ggo := ggo) (gR := gR) (gch := gch) (gD := gD) (gnr := gnr) (gnk := gnk) (gnc := gnc) (gng := gng) (gns := gns) (gna := gna) (gnb := gnb) hx_5) mX9_tileColumns u_1447 u_1449 u_41 0 rfl rfl 6 [0, 1] [2, 3, 4, 5] rfl (by decide +kernel) rfl rfl rfl rfl (Nat.le_of_ble_eq_true rfl) (Nat.le_of_ble_eq_true rfl) (Nat.le_of_ble_eq_true rfl) (Nat.le_of_ble_eq_true rfl) (Nat.le_of_ble_eq_true rfl) dX9_tileBeats_5 rfl (fun _ _ hp => hp.2) (fun v_6 hp_8 => ?_)
  obtain ⟨rfl, -⟩ := hp_8
  refine xr_st (st' := [.int x_5, .int x_1]) rfl ?_
  refine xr_iadd (n := 9) C dX9_tileBeats_8 rfl ?_
  refine xr_aload_n (n := 10) (j := 0) C dX9_tileBeats_9 rfl rfl ?_
  refine xr_get (n := 13) C 0 rfl rfl 9 (by decide) in_X9 u_1246 rfl (v := .ref gn) rfl dX9_tileBeats_10 rfl ?_
  obtain ⟨x_9, hx_9, hR⟩ := yf_b hR
  refine xr_callVp (n := 16) (As := []) (rest := [.int (x_1 + x_5)]) C (kX8_steps l D cy (w := gn) (wr := gnr) (wk := gnk) (wc := gnc) (wg := gng) (ws := gns) (wa := gna) (wb := gnb) (wad := gnad) (wan := gnan) (wak := gnak) (waG := gnaG) (wbd := gnbd) (wbn := gnbn) (wbk := gnbk) (wbG := gnbG) hx_9) mX8_steps u_1359 u_1360 u_1361 1 rfl rfl 6 [1, 2, 3, 4, 5] [0] rfl (by decide +kernel) rfl rfl rfl rfl (Nat.le_of_ble_eq_true rfl) (Nat.le_of_ble_eq_true rfl) (Nat.le_of_ble_eq_true rfl) (Nat.le_of_ble_eq_true rfl) (Nat.le_of_ble_eq_true rfl) dX9_tileBeats_13 rfl (fun _ _ hp => hp.2) (fun v_10 hp_12 => ?_)
  obtain ⟨rfl, -⟩ := hp_12
  refine xr_st (st' := [.int x_9, .int (x_1 + x_5)]) rfl ?_
  refine xr_iadd (n := 17) C dX9_tileBeats_16 rfl ?_
  refine xr_iconst (n := 18) (v := 1) C dX9_tileBeats_17 rfl rfl ?_
  refine xr_isub (n := 19) C dX9_tileBeats_18 rfl ?_
  obtain rfl := Option.some.inj hR
  exact ret (((x_1 + x_5) + x_9) - 1) ⟨rfl, rfl⟩ (Nat.le_of_ble_eq_true rfl) (Nat.le_of_ble_eq_true rfl) dX9_tileBeats_19
theorem dX9_begin_0 : decode cX9_begin 0 = .ok (.aload_n 0, 1) := by decide +kernel
theorem dX9_begin_1 : decode cX9_begin 1 = .ok (.iconst 0, 1) := by decide +kernel
theorem dX9_begin_2 : decode cX9_begin 2 = .ok (.putfield 167, 3) := by decide +kernel
theorem dX9_begin_5 : decode cX9_begin 5 = .ok (.aload_n 0, 1) := by decide +kernel
theorem dX9_begin_6 : decode cX9_begin 6 = .ok (.getfield 35, 3) := by decide +kernel
theorem dX9_begin_9 : decode cX9_begin 9 = .ok (.astore_n 1, 1) := by decide +kernel
theorem dX9_begin_10 : decode cX9_begin 10 = .ok (.aload_n 1, 1) := by decide +kernel
theorem dX9_begin_11 : decode cX9_begin 11 = .ok (.arraylength, 1) := by decide +kernel
theorem dX9_begin_12 : decode cX9_begin 12 = .ok (.istore_n 2, 1) := by decide +kernel
theorem dX9_begin_13 : decode cX9_begin 13 = .ok (.iconst 0, 1) := by decide +kernel
theorem dX9_begin_14 : decode cX9_begin 14 = .ok (.istore_n 3, 1) := by decide +kernel
theorem dX9_begin_15 : decode cX9_begin 15 = .ok (.iload_n 3, 1) := by decide +kernel
theorem dX9_begin_16 : decode cX9_begin 16 = .ok (.iload_n 2, 1) := by decide +kernel
theorem dX9_begin_17 : decode cX9_begin 17 = .ok (.if_icmp .ge 41, 3) := by decide +kernel
theorem dX9_begin_20 : decode cX9_begin 20 = .ok (.aload_n 1, 1) := by decide +kernel
theorem dX9_begin_21 : decode cX9_begin 21 = .ok (.iload_n 3, 1) := by decide +kernel
theorem dX9_begin_22 : decode cX9_begin 22 = .ok (.aaload, 1) := by decide +kernel
theorem dX9_begin_23 : decode cX9_begin 23 = .ok (.astore 4, 2) := by decide +kernel
theorem dX9_begin_25 : decode cX9_begin 25 = .ok (.iconst 0, 1) := by decide +kernel
theorem dX9_begin_26 : decode cX9_begin 26 = .ok (.istore 5, 2) := by decide +kernel
theorem dX9_begin_28 : decode cX9_begin 28 = .ok (.iload 5, 2) := by decide +kernel
theorem dX9_begin_30 : decode cX9_begin 30 = .ok (.iconst 5, 1) := by decide +kernel
theorem dX9_begin_31 : decode cX9_begin 31 = .ok (.if_icmp .ge 21, 3) := by decide +kernel
theorem dX9_begin_34 : decode cX9_begin 34 = .ok (.aload 4, 2) := by decide +kernel
theorem dX9_begin_36 : decode cX9_begin 36 = .ok (.iload 5, 2) := by decide +kernel
theorem dX9_begin_38 : decode cX9_begin 38 = .ok (.aload_n 0, 1) := by decide +kernel
theorem dX9_begin_39 : decode cX9_begin 39 = .ok (.getfield 137, 3) := by decide +kernel
theorem dX9_begin_42 : decode cX9_begin 42 = .ok (.invokevirtual 170, 3) := by decide +kernel
theorem dX9_begin_45 : decode cX9_begin 45 = .ok (.iastore, 1) := by decide +kernel
theorem dX9_begin_46 : decode cX9_begin 46 = .ok (.iinc 5 1, 3) := by decide +kernel
theorem dX9_begin_49 : decode cX9_begin 49 = .ok (.goto (-21), 3) := by decide +kernel
theorem dX9_begin_52 : decode cX9_begin 52 = .ok (.iinc 3 1, 3) := by decide +kernel
theorem dX9_begin_55 : decode cX9_begin 55 = .ok (.goto (-40), 3) := by decide +kernel
theorem dX9_begin_58 : decode cX9_begin 58 = .ok (.return_, 1) := by decide +kernel
def fX9_begin (gng : Int32) (gSG : Nat → Nat → Int32) : Option (Int32 × (Nat → Nat → Int32)) := ((wl (S := Int32 × (Nat → Nat → Int32)) (B := Int32 × (Nat → Nat → Int32)) (fun s_1 => (if (nI 5) ≤ s_1.1 then some (.inr (s_1.1, s_1.2)) else (if ¬ (s_1.1 < 0 ∨ 5 ≤ s_1.1.toNatClampNeg) then ((wl (S := Int32 × (Nat → Nat → Int32)) (B := Int32 × (Nat → Nat → Int32)) (fun s_5 => (if 5 ≤ s_5.1 then some (.inr (s_5.1, s_5.2)) else ((fX8_first gng).bind fun x_8 => (if ¬ (s_5.1 < 0 ∨ 5 ≤ s_5.1.toNatClampNeg) then some (.inl (s_5.1 + 1, upg s_5.2 s_1.1.toNatClampNeg s_5.1.toNatClampNeg x_8)) else none)))) yFuel (0, s_1.2)).bind fun b_5 => some (.inl (s_1.1 + 1, b_5.2))) else none))) yFuel (0, gSG)).bind fun b_1 => some (0, b_1.2))
abbrev hX9_begin : Cond := .code yX9_begin cX9_begin 6 none
theorem mX9_begin : yM yX9_begin hX9_begin 0 := ⟨u_1413, u_64, by decide +kernel, by decide +kernel, by decide +kernel⟩
set_option maxHeartbeats 4000000 in
set_option maxRecDepth 100000 in
theorem kX9_begin (l : Launch) (D : va_G) (cy : Nat → ClassId) (g : Nat) (gth : Int32) (gw : Nat) (gB : Nat) (gK : Nat) (gU : Nat) (gS : Nat) (gbe : Int32) (gwo : Int32) (gta : Int64) (gn : Nat) (glr : Int32) (glc : Int32) (gti : Int32) (ggo : Int32) (gR : Nat) (gch : Int32) (gD : Nat) (gnr : Int32) (gnk : Int32) (gnc : Int32) (gng : Int32) (gns : Int32) (gna : Nat) (gnb : Nat) (gSd : Nat → Nat) (gSG : Nat → Nat → Int32) {res : Int32 × (Nat → Nat → Int32)} (hR : fX9_begin gng gSG = some res) : YM l D cy yX9_begin hX9_begin 2 0 0 [.ref g] [[(g, .inr (11, [.int gth, .ref gw, .ref gB, .ref gK, .ref gU, .ref gS, .int gbe, .int gwo, .long gta, .ref gn, .int glr, .int glc, .int gti, .int ggo, .ref gR, .int gch, .ref gD]))], [(gn, .inr (10, [.int gnr, .int gnk, .int gnc, .int gng, .int gns, .ref gna, .ref gnb]))], [(gS, .inl (cy 3, 5, .inr (.inr (.inr (.inr (yad gSd))))))], xg_rows gSd 5 (cy 1) 5 gSG] (fun v u => v = none ∧ u = [[(g, .inr (11, [.int gth, .ref gw, .ref gB, .ref gK, .ref gU, .ref gS, .int gbe, .int gwo, .long gta, .ref gn, .int glr, .int glc, .int gti, .int res.1, .ref gR, .int gch, .ref gD]))], [(gn, .inr (10, [.int gnr, .int gnk, .int gnc, .int gng, .int gns, .ref gna, .ref gnb]))], [(gS, .inl (cy 3, 5, .inr (.inr (.inr (.inr (yad gSd))))))], xg_rows gSd 5 (cy 1) 5 res.2]) := by
  unfold fX9_begin at hR
  refine YM.ofV (cc := cX9_begin) (maxL := 6) (ret := none) (by decide +kernel) rfl (Nat.le_of_ble_eq_true rfl) [(0, .ref g)] rfl rfl (fun p e s m args below meth c A H0 Q C hnm ret => ?_)
  refine xr_aload_n (n := 1) (j := 0) C dX9_begin_0 rfl rfl ?_
  refine xr_iconst (n := 2) (v := 0) C dX9_begin_1 rfl rfl ?_
  refine xr_put (n := 5) C 0 rfl rfl 13 (by decide) in_X9 tyX9 tyX9_ok nmX9 u_1250 rfl rfl rfl rfl (Nat.le_of_ble_eq_true rfl) [[(g, .inr (11, [.int gth, .ref gw, .ref gB, .ref gK, .ref gU, .ref gS, .int gbe, .int gwo, .long gta, .ref gn, .int glr, .int glc, .int gti, .int 0, .ref gR, .int gch, .ref gD]))], [(gn, .inr (10, [.int gnr, .int gnk, .int gnc, .int gng, .int gns, .ref gna, .ref gnb]))], [(gS, .inl (cy 3, 5, .inr (.inr (.inr (.inr (yad gSd))))))], xg_rows gSd 5 (cy 1) 5 gSG] rfl rfl dX9_begin_2 ?_
  refine xr_aload_n (n := 6) (j := 0) C dX9_begin_5 rfl rfl ?_
  refine xr_get (n := 9) C 0 rfl rfl 5 (by decide) in_X9 u_1242 rfl (v := .ref gS) rfl dX9_begin_6 rfl ?_
  refine xr_astore_n (n := 10) C [(1, .ref gS), (0, .ref g)] dX9_begin_9 (by decide) rfl rfl ?_
  refine xr_aload_n (n := 11) (j := 0) C dX9_begin_10 rfl rfl ?_
  refine xr_alen (n := 12) C 2 0 rfl 3 rfl rfl dX9_begin_11 rfl ?_
  refine xr_istore_n (n := 13) C [(2, .int (nI 5)), (1, .ref gS), (0, .ref g)] dX9_begin_12 (by decide) rfl rfl ?_
  refine xr_iconst (n := 14) (v := 0) C dX9_begin_13 rfl rfl ?_
  refine xr_istore_n (n := 15) C [(3, .int 0), (2, .int (nI 5)), (1, .ref gS), (0, .ref g)] dX9_begin_14 (by decide) rfl rfl ?_
  refine xr_lv (lv' := [(0, .ref g), (1, .ref gS), (2, .int (nI 5)), (3, .int 0)]) [3, 2, 1, 0] rfl ?_
  obtain ⟨b_1, hb_1, hR⟩ := yf_b hR
  have K_1 : X p l e (yR 2 0 0) s m args below meth c D A H0 6 Q [[(g, .inr (11, [.int gth, .ref gw, .ref gB, .ref gK, .ref gU, .ref gS, .int gbe, .int gwo, .long gta, .ref gn, .int glr, .int glc, .int gti, .int 0, .ref gR, .int gch, .ref gD]))], [(gn, .inr (10, [.int gnr, .int gnk, .int gnc, .int gng, .int gns, .ref gna, .ref gnb]))], [(gS, .inl (cy 3, 5, .inr (.inr (.inr (.inr (yad gSd))))))], xg_rows gSd 5 (cy 1) 5 b_1.2] 0 0 [] 58 [] := by
    obtain rfl := Option.some.inj hR
    exact ret ⟨rfl, rfl⟩ (Nat.le_of_ble_eq_true rfl) (Nat.le_of_ble_eq_true rfl) dX9_begin_58
  refine y_loop (P := fun (s_1 : Int32 × (Nat → Nat → Int32)) => X p l e (yR 2 0 0) s m args below meth c D A H0 6 Q [[(g, .inr (11, [.int gth, .ref gw, .ref gB, .ref gK, .ref gU, .ref gS, .int gbe, .int gwo, .long gta, .ref gn, .int glr, .int glc, .int gti, .int 0, .ref gR, .int gch, .ref gD]))], [(gn, .inr (10, [.int gnr, .int gnk, .int gnc, .int gng, .int gns, .ref gna, .ref gnb]))], [(gS, .inl (cy 3, 5, .inr (.inr (.inr (.inr (yad gSd))))))], xg_rows gSd 5 (cy 1) 5 s_1.2] 0 0 [(0, .ref g), (1, .ref gS), (2, .int (nI 5)), (3, .int s_1.1)] 15 []) ?_ _ (0, gSG) hb_1
  intro s_1 o_1 ho_1 hk_1 hx_1
  refine xr_iload_n (n := 16) (j := 3) C dX9_begin_15 rfl rfl ?_
  refine xr_iload_n (n := 17) (j := 2) C dX9_begin_16 rfl rfl ?_
  refine xr_icmp_ge (tgt := 58) (n := 20) C dX9_begin_17 rfl rfl (fun c_2 => ?_) (fun c_2 => ?_)
  · replace ho_1 := yf_t c_2 ho_1
    refine xr_lv (lv' := []) [] rfl ?_
    have e_3 := hx_1 _ (Option.some.inj ho_1).symm
    subst e_3
    exact K_1
  · replace ho_1 := yf_f c_2 ho_1
    refine xr_aload_n (n := 21) (j := 1) C dX9_begin_20 rfl rfl ?_
    refine xr_iload_n (n := 22) (j := 3) C dX9_begin_21 rfl rfl ?_
    obtain ⟨g_4, ho_1⟩ := yf_g ho_1
    refine xr_aald (n := 23) C 2 0 rfl 3 rfl rfl g_4 rfl dX9_begin_22 rfl ?_
    refine xr_astore (n := 25) C [(4, .ref (gSd s_1.1.toNatClampNeg)), (0, .ref g), (1, .ref gS), (2, .int (nI 5)), (3, .int s_1.1)] dX9_begin_23 (by decide) rfl rfl ?_
    refine xr_iconst (n := 26) (v := 0) C dX9_begin_25 rfl rfl ?_
    refine xr_istore (n := 28) C [(5, .int 0), (4, .ref (gSd s_1.1.toNatClampNeg)), (0, .ref g), (1, .ref gS), (2, .int (nI 5)), (3, .int s_1.1)] dX9_begin_26 (by decide) rfl rfl ?_
    refine xr_lv (lv' := [(0, .ref g), (1, .ref gS), (2, .int (nI 5)), (3, .int s_1.1), (4, .ref (gSd s_1.1.toNatClampNeg)), (5, .int 0)]) [2, 3, 4, 5, 1, 0] rfl ?_
    obtain ⟨b_5, hb_5, ho_1⟩ := yf_b ho_1
    have K_5 : X p l e (yR 2 0 0) s m args below meth c D A H0 6 Q [[(g, .inr (11, [.int gth, .ref gw, .ref gB, .ref gK, .ref gU, .ref gS, .int gbe, .int gwo, .long gta, .ref gn, .int glr, .int glc, .int gti, .int 0, .ref gR, .int gch, .ref gD]))], [(gn, .inr (10, [.int gnr, .int gnk, .int gnc, .int gng, .int gns, .ref gna, .ref gnb]))], [(gS, .inl (cy 3, 5, .inr (.inr (.inr (.inr (yad gSd))))))], xg_rows gSd 5 (cy 1) 5 b_5.2] 0 0 [(0, .ref g), (1, .ref gS), (2, .int (nI 5)), (3, .int s_1.1)] 52 [] := by
      refine xr_iinc (j := 3) (v := s_1.1 + 1) (n := 55) C [(3, .int (s_1.1 + 1)), (0, .ref g), (1, .ref gS), (2, .int (nI 5))] dX9_begin_52 rfl rfl (by decide) rfl rfl ?_
      refine xr_goto (tgt := 15) C dX9_begin_55 rfl ?_
      refine xr_lv (lv' := [(0, .ref g), (1, .ref gS), (2, .int (nI 5)), (3, .int (s_1.1 + 1))]) [1, 2, 3, 0] rfl ?_
      exact hk_1 (s_1.1 + 1, b_5.2) (Option.some.inj ho_1).symm
    refine y_loop (P := fun (s_5 : Int32 × (Nat → Nat → Int32)) => X p l e (yR 2 0 0) s m args below meth c D A H0 6 Q [[(g, .inr (11, [.int gth, .ref gw, .ref gB, .ref gK, .ref gU, .ref gS, .int gbe, .int gwo, .long gta, .ref gn, .int glr, .int glc, .int gti, .int 0, .ref gR, .int gch, .ref gD]))], [(gn, .inr (10, [.int gnr, .int gnk, .int gnc, .int gng, .int gns, .ref gna, .ref gnb]))], [(gS, .inl (cy 3, 5, .inr (.inr (.inr (.inr (yad gSd))))))], xg_rows gSd 5 (cy 1) 5 s_5.2] 0 0 [(0, .ref g), (1, .ref gS), (2, .int (nI 5)), (3, .int s_1.1), (4, .ref (gSd s_1.1.toNatClampNeg)), (5, .int s_5.1)] 28 []) ?_ _ (0, s_1.2) hb_5
    intro s_5 o_5 ho_5 hk_5 hx_5
    refine xr_iload (n := 30) (j := 5) C dX9_begin_28 rfl rfl ?_
    refine xr_iconst (n := 31) (v := 5) C dX9_begin_30 rfl rfl ?_
    refine xr_icmp_ge (tgt := 52) (n := 34) C dX9_begin_31 rfl rfl (fun c_6 => ?_) (fun c_6 => ?_)
    · replace ho_5 := yf_t c_6 ho_5
      refine xr_lv (lv' := [(0, .ref g), (1, .ref gS), (2, .int (nI 5)), (3, .int s_1.1)]) [0, 1, 2, 3] rfl ?_
      have e_7 := hx_5 _ (Option.some.inj ho_5).symm
      subst e_7
      exact K_5
    · replace ho_5 := yf_f c_6 ho_5
      refine xr_aload (n := 36) (j := 4) C dX9_begin_34 rfl rfl ?_
      refine xr_iload (n := 38) (j := 5) C dX9_begin_36 rfl rfl ?_
      refine xr_aload_n (n := 39) (j := 0) C dX9_begin_38 rfl rfl ?_
      refine xr_get (n := 42) C 0 rfl rfl 9 (by decide) in_X9 u_1246 rfl (v := .ref gn) rfl dX9_begin_39 rfl ?_
      obtain ⟨x_8, hx_8, ho_5⟩ := yf_b ho_5
      refine xr_callVp (n := 45) (As := []) (rest := [.int s_5.1, .ref (gSd s_1.1.toNatClampNeg)]) C (kX8_first l D cy (w := gn) (wr := gnr) (wk := gnk) (wc := gnc) (wg := gng) (ws := gns) (wa := gna) (wb := gnb) hx_8) mX8_first u_1414 u_1415 u_1416 1 rfl rfl 4 [1] [0, 2, 3] rfl (by decide +kernel) rfl rfl rfl rfl (Nat.le_of_ble_eq_true rfl) (Nat.le_of_ble_eq_true rfl) (Nat.le_of_ble_eq_true rfl) (Nat.le_of_ble_eq_true rfl) (Nat.le_of_ble_eq_true rfl) dX9_begin_42 rfl (fun _ _ hp => hp.2) (fun v_9 hp_11 => ?_)
      obtain ⟨rfl, -⟩ := hp_11
      refine xr_st (st' := [.int x_8, .int s_5.1, .ref (gSd s_1.1.toNatClampNeg)]) rfl ?_
      obtain ⟨g_12, ho_5⟩ := yf_g ho_5
      refine xr_iastg (n := 46) C 3 rfl s_1.1.toNatClampNeg (ylt g_4) g_12 [[(g, .inr (11, [.int gth, .ref gw, .ref gB, .ref gK, .ref gU, .ref gS, .int gbe, .int gwo, .long gta, .ref gn, .int glr, .int glc, .int gti, .int 0, .ref gR, .int gch, .ref gD]))], [(gn, .inr (10, [.int gnr, .int gnk, .int gnc, .int gng, .int gns, .ref gna, .ref gnb]))], [(gS, .inl (cy 3, 5, .inr (.inr (.inr (.inr (yad gSd))))))], xg_rows gSd 5 (cy 1) 5 (upg s_5.2 s_1.1.toNatClampNeg s_5.1.toNatClampNeg x_8)] rfl dX9_begin_45 rfl ?_
      refine xr_iinc (j := 5) (v := s_5.1 + 1) (n := 49) C [(5, .int (s_5.1 + 1)), (0, .ref g), (1, .ref gS), (2, .int (nI 5)), (3, .int s_1.1), (4, .ref (gSd s_1.1.toNatClampNeg))] dX9_begin_46 rfl rfl (by decide) rfl rfl ?_
      refine xr_goto (tgt := 28) C dX9_begin_49 rfl ?_
      refine xr_lv (lv' := [(0, .ref g), (1, .ref gS), (2, .int (nI 5)), (3, .int s_1.1), (4, .ref (gSd s_1.1.toNatClampNeg)), (5, .int (s_5.1 + 1))]) [1, 2, 3, 4, 5, 0] rfl ?_
      exact hk_5 (s_5.1 + 1, upg s_5.2 s_1.1.toNatClampNeg s_5.1.toNatClampNeg x_8) (Option.some.inj ho_5).symm
theorem dX9_beatsFrom_0 : decode cX9_beatsFrom 0 = .ok (.iconst 0, 1) := by decide +kernel
theorem dX9_beatsFrom_1 : decode cX9_beatsFrom 1 = .ok (.istore_n 1, 1) := by decide +kernel
theorem dX9_beatsFrom_2 : decode cX9_beatsFrom 2 = .ok (.aload_n 0, 1) := by decide +kernel
theorem dX9_beatsFrom_3 : decode cX9_beatsFrom 3 = .ok (.getfield 137, 3) := by decide +kernel
theorem dX9_beatsFrom_6 : decode cX9_beatsFrom 6 = .ok (.invokevirtual 113, 3) := by decide +kernel
theorem dX9_beatsFrom_9 : decode cX9_beatsFrom 9 = .ok (.aload_n 0, 1) := by decide +kernel
theorem dX9_beatsFrom_10 : decode cX9_beatsFrom 10 = .ok (.invokevirtual 158, 3) := by decide +kernel
theorem dX9_beatsFrom_13 : decode cX9_beatsFrom 13 = .ok (.invokestatic 110, 3) := by decide +kernel
theorem dX9_beatsFrom_16 : decode cX9_beatsFrom 16 = .ok (.istore_n 2, 1) := by decide +kernel
theorem dX9_beatsFrom_17 : decode cX9_beatsFrom 17 = .ok (.aload_n 0, 1) := by decide +kernel
theorem dX9_beatsFrom_18 : decode cX9_beatsFrom 18 = .ok (.getfield 155, 3) := by decide +kernel
theorem dX9_beatsFrom_21 : decode cX9_beatsFrom 21 = .ok (.istore_n 3, 1) := by decide +kernel
theorem dX9_beatsFrom_22 : decode cX9_beatsFrom 22 = .ok (.iload_n 3, 1) := by decide +kernel
theorem dX9_beatsFrom_23 : decode cX9_beatsFrom 23 = .ok (.aload_n 0, 1) := by decide +kernel
theorem dX9_beatsFrom_24 : decode cX9_beatsFrom 24 = .ok (.getfield 137, 3) := by decide +kernel
theorem dX9_beatsFrom_27 : decode cX9_beatsFrom 27 = .ok (.invokevirtual 106, 3) := by decide +kernel
theorem dX9_beatsFrom_30 : decode cX9_beatsFrom 30 = .ok (.aload_n 0, 1) := by decide +kernel
theorem dX9_beatsFrom_31 : decode cX9_beatsFrom 31 = .ok (.invokevirtual 152, 3) := by decide +kernel
theorem dX9_beatsFrom_34 : decode cX9_beatsFrom 34 = .ok (.invokestatic 110, 3) := by decide +kernel
theorem dX9_beatsFrom_37 : decode cX9_beatsFrom 37 = .ok (.iload_n 2, 1) := by decide +kernel
theorem dX9_beatsFrom_38 : decode cX9_beatsFrom 38 = .ok (.imul, 1) := by decide +kernel
theorem dX9_beatsFrom_39 : decode cX9_beatsFrom 39 = .ok (.if_icmp .ge 57, 3) := by decide +kernel
theorem dX9_beatsFrom_42 : decode cX9_beatsFrom 42 = .ok (.iload_n 1, 1) := by decide +kernel
theorem dX9_beatsFrom_43 : decode cX9_beatsFrom 43 = .ok (.aload_n 0, 1) := by decide +kernel
theorem dX9_beatsFrom_44 : decode cX9_beatsFrom 44 = .ok (.getfield 137, 3) := by decide +kernel
theorem dX9_beatsFrom_47 : decode cX9_beatsFrom 47 = .ok (.invokevirtual 106, 3) := by decide +kernel
theorem dX9_beatsFrom_50 : decode cX9_beatsFrom 50 = .ok (.aload_n 0, 1) := by decide +kernel
theorem dX9_beatsFrom_51 : decode cX9_beatsFrom 51 = .ok (.invokevirtual 152, 3) := by decide +kernel
theorem dX9_beatsFrom_54 : decode cX9_beatsFrom 54 = .ok (.iload_n 3, 1) := by decide +kernel
theorem dX9_beatsFrom_55 : decode cX9_beatsFrom 55 = .ok (.iload_n 2, 1) := by decide +kernel
theorem dX9_beatsFrom_56 : decode cX9_beatsFrom 56 = .ok (.idiv, 1) := by decide +kernel
theorem dX9_beatsFrom_57 : decode cX9_beatsFrom 57 = .ok (.invokestatic 116, 3) := by decide +kernel
theorem dX9_beatsFrom_60 : decode cX9_beatsFrom 60 = .ok (.aload_n 0, 1) := by decide +kernel
theorem dX9_beatsFrom_61 : decode cX9_beatsFrom 61 = .ok (.getfield 137, 3) := by decide +kernel
theorem dX9_beatsFrom_64 : decode cX9_beatsFrom 64 = .ok (.invokevirtual 113, 3) := by decide +kernel
theorem dX9_beatsFrom_67 : decode cX9_beatsFrom 67 = .ok (.aload_n 0, 1) := by decide +kernel
theorem dX9_beatsFrom_68 : decode cX9_beatsFrom 68 = .ok (.invokevirtual 158, 3) := by decide +kernel
theorem dX9_beatsFrom_71 : decode cX9_beatsFrom 71 = .ok (.iload_n 3, 1) := by decide +kernel
theorem dX9_beatsFrom_72 : decode cX9_beatsFrom 72 = .ok (.iload_n 2, 1) := by decide +kernel
theorem dX9_beatsFrom_73 : decode cX9_beatsFrom 73 = .ok (.irem, 1) := by decide +kernel
theorem dX9_beatsFrom_74 : decode cX9_beatsFrom 74 = .ok (.invokestatic 116, 3) := by decide +kernel
theorem dX9_beatsFrom_77 : decode cX9_beatsFrom 77 = .ok (.iadd, 1) := by decide +kernel
theorem dX9_beatsFrom_78 : decode cX9_beatsFrom 78 = .ok (.aload_n 0, 1) := by decide +kernel
theorem dX9_beatsFrom_79 : decode cX9_beatsFrom 79 = .ok (.getfield 137, 3) := by decide +kernel
theorem dX9_beatsFrom_82 : decode cX9_beatsFrom 82 = .ok (.invokevirtual 120, 3) := by decide +kernel
theorem dX9_beatsFrom_85 : decode cX9_beatsFrom 85 = .ok (.iadd, 1) := by decide +kernel
theorem dX9_beatsFrom_86 : decode cX9_beatsFrom 86 = .ok (.iconst 1, 1) := by decide +kernel
theorem dX9_beatsFrom_87 : decode cX9_beatsFrom 87 = .ok (.isub, 1) := by decide +kernel
theorem dX9_beatsFrom_88 : decode cX9_beatsFrom 88 = .ok (.iadd, 1) := by decide +kernel
theorem dX9_beatsFrom_89 : decode cX9_beatsFrom 89 = .ok (.istore_n 1, 1) := by decide +kernel
theorem dX9_beatsFrom_90 : decode cX9_beatsFrom 90 = .ok (.iinc 3 1, 3) := by decide +kernel
theorem dX9_beatsFrom_93 : decode cX9_beatsFrom 93 = .ok (.goto (-71), 3) := by decide +kernel
theorem dX9_beatsFrom_96 : decode cX9_beatsFrom 96 = .ok (.iload_n 1, 1) := by decide +kernel
theorem dX9_beatsFrom_97 : decode cX9_beatsFrom 97 = .ok (.ireturn, 1) := by decide +kernel
def fX9_beatsFrom (glr : Int32) (glc : Int32) (gti : Int32) (gnr : Int32) (gnk : Int32) (gnc : Int32) (gng : Int32) (gns : Int32) (gnan : Nat) (gnak : Nat) (gnaG : Nat → Nat → Int32) (gnbn : Nat) (gnbk : Nat) (gnbG : Nat → Nat → Int32) : Option (Int32) := ((fX8_columns gnc gns).bind fun x_1 => ((fX9_w glc).bind fun x_5 => ((fX9_tiles x_1 x_5).bind fun x_9 => ((wl (S := Int32 × Int32) (B := Int32 × Int32) (fun s_13 => ((fX8_rows gnr gns).bind fun x_14 => ((fX9_h glr).bind fun x_18 => ((fX9_tiles x_14 x_18).bind fun x_22 => (if (x_22 * x_9) ≤ s_13.2 then some (.inr (s_13.1, s_13.2)) else ((fX8_rows gnr gns).bind fun x_28 => ((fX9_h glr).bind fun x_32 => (if ¬ x_9 = 0 then ((fX9_size x_28 x_32 (s_13.2 / x_9)).bind fun x_37 => ((fX8_columns gnc gns).bind fun x_41 => ((fX9_w glc).bind fun x_45 => (if ¬ x_9 = 0 then ((fX9_size x_41 x_45 (s_13.2 - s_13.2 / x_9 * x_9)).bind fun x_50 => ((fX8_steps gnk gng gnan gnak gnaG gnbn gnbk gnbG).bind fun x_54 => some (.inl (s_13.1 + (((x_37 + x_50) + x_54) - 1), s_13.2 + 1)))) else none)))) else none)))))))) yFuel (0, gti)).bind fun b_13 => some b_13.1))))
abbrev hX9_beatsFrom : Cond := .code yX9_beatsFrom cX9_beatsFrom 4 (some .int)
theorem mX9_beatsFrom : yM yX9_beatsFrom hX9_beatsFrom 0 := ⟨u_1425, u_64, by decide +kernel, by decide +kernel, by decide +kernel⟩
set_option maxHeartbeats 4000000 in
set_option maxRecDepth 100000 in
theorem kX9_beatsFrom (l : Launch) (D : va_G) (cy : Nat → ClassId) (g : Nat) (gth : Int32) (gw : Nat) (gB : Nat) (gK : Nat) (gU : Nat) (gS : Nat) (gbe : Int32) (gwo : Int32) (gta : Int64) (gn : Nat) (glr : Int32) (glc : Int32) (gti : Int32) (ggo : Int32) (gR : Nat) (gch : Int32) (gD : Nat) (gnr : Int32) (gnk : Int32) (gnc : Int32) (gng : Int32) (gns : Int32) (gna : Nat) (gnb : Nat) (gnad : Nat → Nat) (gnan : Nat) (gnak : Nat) (gnaG : Nat → Nat → Int32) (gnbd : Nat → Nat) (gnbn : Nat) (gnbk : Nat) (gnbG : Nat → Nat → Int32) {res : Int32} (hR : fX9_beatsFrom glr glc gti gnr gnk gnc gng gns gnan gnak gnaG gnbn gnbk gnbG = some res) : YM l D cy yX9_beatsFrom hX9_beatsFrom 4 0 0 [.ref g] [[(g, .inr (11, [.int gth, .ref gw, .ref gB, .ref gK, .ref gU, .ref gS, .int gbe, .int gwo, .long gta, .ref gn, .int glr, .int glc, .int gti, .int ggo, .ref gR, .int gch, .ref gD]))], [(gn, .inr (10, [.int gnr, .int gnk, .int gnc, .int gng, .int gns, .ref gna, .ref gnb]))], [(gna, .inl (cy 3, gnan, .inr (.inr (.inr (.inr (yad gnad))))))], xg_rows gnad gnan (cy 1) gnak gnaG, [(gnb, .inl (cy 3, gnbn, .inr (.inr (.inr (.inr (yad gnbd))))))], xg_rows gnbd gnbn (cy 1) gnbk gnbG] (fun v u => v = some (.int res) ∧ u = [[(g, .inr (11, [.int gth, .ref gw, .ref gB, .ref gK, .ref gU, .ref gS, .int gbe, .int gwo, .long gta, .ref gn, .int glr, .int glc, .int gti, .int ggo, .ref gR, .int gch, .ref gD]))], [(gn, .inr (10, [.int gnr, .int gnk, .int gnc, .int gng, .int gns, .ref gna, .ref gnb]))], [(gna, .inl (cy 3, gnan, .inr (.inr (.inr (.inr (yad gnad))))))], xg_rows gnad gnan (cy 1) gnak gnaG, [(gnb, .inl (cy 3, gnbn, .inr (.inr (.inr (.inr (yad gnbd))))))], xg_rows gnbd gnbn (cy 1) gnbk gnbG]) := by
  unfold fX9_beatsFrom at hR
  refine YM.ofI (cc := cX9_beatsFrom) (maxL := 4) (ret := (some .int)) (by decide +kernel) rfl (Nat.le_of_ble_eq_true rfl) [(0, .ref g)] rfl rfl (fun p e s m args below meth c A H0 Q C hnm ret => ?_)
  refine xr_iconst (n := 1) (v := 0) C dX9_beatsFrom_0 rfl rfl ?_
  refine xr_istore_n (n := 2) C [(1, .int 0), (0, .ref g)] dX9_beatsFrom_1 (by decide) rfl rfl ?_
  refine xr_aload_n (n := 3) (j := 1) C dX9_beatsFrom_2 rfl rfl ?_
  refine xr_get (n := 6) C 0 rfl rfl 9 (by decide) in_X9 u_1246 rfl (v := .ref gn) rfl dX9_beatsFrom_3 rfl ?_
  obtain ⟨x_1, hx_1, hR⟩ := yf_b hR
  refine xr_callVp (n := 9) (As := []) (rest := []) C (kX8_columns l D cy (w := gn) (wr := gnr) (wk := gnk) (wc := gnc) (wg := gng) (ws := gns) (wa := gna) (wb := gnb) hx_1) mX8_columns u_1391 u_1392 u_1393 1 rfl rfl 6 [1] [0, 2, 3, 4, 5] rfl (by decide +kernel) rfl rfl rfl rfl (Nat.le_of_ble_eq_true rfl) (Nat.le_of_ble_eq_true rfl) (Nat.le_of_ble_eq_true rfl) (Nat.le_of_ble_eq_true rfl) (Nat.le_of_ble_eq_true rfl) dX9_beatsFrom_6 rfl (fun _ _ hp => hp.2) (fun v_2 hp_4 => ?_)
  obtain ⟨rfl, -⟩ := hp_4
  refine xr_st (st' := [.int x_1]) rfl ?_
  refine xr_aload_n (n := 10) (j := 1) C dX9_beatsFrom_9 rfl rfl ?_
  obtain ⟨x_5, hx_5, hR⟩ := yf_b hR
  refine xr_callVp (n := 13) (As := []) (rest := [.int x_1]) C (kX9_w l D cy (g := g) (gth := gth) (gw := gw) (gB := gB) (gK := gK) (gU := gU) (gS := gS) (gbe := gbe) (gwo := gwo) (gta := gta) (gn := gn) (glr := glr) (glc := glc) (gti := gti) (ggo := ggo) (gR := gR) (gch := gch) (gD := gD) hx_5) mX9_w u_1426 u_1428 u_37 0 rfl rfl 6 [0] [1, 2, 3, 4, 5] rfl (by decide +kernel) rfl rfl rfl rfl (Nat.le_of_ble_eq_true rfl) (Nat.le_of_ble_eq_true rfl) (Nat.le_of_ble_eq_true rfl) (Nat.le_of_ble_eq_true rfl) (Nat.le_of_ble_eq_true rfl) dX9_beatsFrom_10 rfl (fun _ _ hp => hp.2) (fun v_6 hp_8 => ?_)
  obtain ⟨rfl, -⟩ := hp_8
  refine xr_st (st' := [.int x_5, .int x_1]) rfl ?_
  obtain ⟨x_9, hx_9, hR⟩ := yf_b hR
  refine xr_callSp (n := 16) (As := [.int x_1, .int x_5]) (rest := []) C (kX9_tiles l D cy (i1 := x_1) (i2 := x_5) hx_9) mX9_tiles u_1388 u_1389 6 [] [0, 1, 2, 3, 4, 5] rfl (by decide +kernel) rfl rfl rfl rfl (Nat.le_of_ble_eq_true rfl) (Nat.le_of_ble_eq_true rfl) (Nat.le_of_ble_eq_true rfl) (Nat.le_of_ble_eq_true rfl) (Nat.le_of_ble_eq_true rfl) dX9_beatsFrom_13 rfl (fun _ _ hp => hp.2) (fun v_10 hp_12 => ?_)
  obtain ⟨rfl, -⟩ := hp_12
  refine xr_st (st' := [.int x_9]) rfl ?_
  refine xr_istore_n (n := 17) C [(2, .int x_9), (1, .int 0), (0, .ref g)] dX9_beatsFrom_16 (by decide) rfl rfl ?_
  refine xr_aload_n (n := 18) (j := 2) C dX9_beatsFrom_17 rfl rfl ?_
  refine xr_get (n := 21) C 0 rfl rfl 12 (by decide) in_X9 u_1249 rfl (v := .int gti) rfl dX9_beatsFrom_18 rfl ?_
  refine xr_istore_n (n := 22) C [(3, .int gti), (2, .int x_9), (1, .int 0), (0, .ref g)] dX9_beatsFrom_21 (by decide) rfl rfl ?_
  refine xr_lv (lv' := [(0, .ref g), (1, .int 0), (2, .int x_9), (3, .int gti)]) [3, 2, 1, 0] rfl ?_
  obtain ⟨b_13, hb_13, hR⟩ := yf_b hR
  have K_13 : X p l e (yR 4 0 0) s m args below meth c D A H0 4 Q [[(g, .inr (11, [.int gth, .ref gw, .ref gB, .ref gK, .ref gU, .ref gS, .int gbe, .int gwo, .long gta, .ref gn, .int glr, .int glc, .int gti, .int ggo, .ref gR, .int gch, .ref gD]))], [(gn, .inr (10, [.int gnr, .int gnk, .int gnc, .int gng, .int gns, .ref gna, .ref gnb]))], [(gna, .inl (cy 3, gnan, .inr (.inr (.inr (.inr (yad gnad))))))], xg_rows gnad gnan (cy 1) gnak gnaG, [(gnb, .inl (cy 3, gnbn, .inr (.inr (.inr (.inr (yad gnbd))))))], xg_rows gnbd gnbn (cy 1) gnbk gnbG] 0 0 [(1, .int b_13.1)] 96 [] := by
    refine xr_iload_n (n := 97) (j := 0) C dX9_beatsFrom_96 rfl rfl ?_
    obtain rfl := Option.some.inj hR
    exact ret b_13.1 ⟨rfl, rfl⟩ (Nat.le_of_ble_eq_true rfl) (Nat.le_of_ble_eq_true rfl) dX9_beatsFrom_97
  refine y_loop (P := fun (s_13 : Int32 × Int32) => X p l e (yR 4 0 0) s m args below meth c D A H0 4 Q [[(g, .inr (11, [.int gth, .ref gw, .ref gB, .ref gK, .ref gU, .ref gS, .int gbe, .int gwo, .long gta, .ref gn, .int glr, .int glc, .int gti, .int ggo, .ref gR, .int gch, .ref gD]))], [(gn, .inr (10, [.int gnr, .int gnk, .int gnc, .int gng, .int gns, .ref gna, .ref gnb]))], [(gna, .inl (cy 3, gnan, .inr (.inr (.inr (.inr (yad gnad))))))], xg_rows gnad gnan (cy 1) gnak gnaG, [(gnb, .inl (cy 3, gnbn, .inr (.inr (.inr (.inr (yad gnbd))))))], xg_rows gnbd gnbn (cy 1) gnbk gnbG] 0 0 [(0, .ref g), (1, .int s_13.1), (2, .int x_9), (3, .int s_13.2)] 22 []) ?_ _ (0, gti) hb_13
  intro s_13 o_13 ho_13 hk_13 hx_13
  refine xr_iload_n (n := 23) (j := 3) C dX9_beatsFrom_22 rfl rfl ?_
  refine xr_aload_n (n := 24) (j := 0) C dX9_beatsFrom_23 rfl rfl ?_
  refine xr_get (n := 27) C 0 rfl rfl 9 (by decide) in_X9 u_1246 rfl (v := .ref gn) rfl dX9_beatsFrom_24 rfl ?_
  obtain ⟨x_14, hx_14, ho_13⟩ := yf_b ho_13
  refine xr_callVp (n := 30) (As := []) (rest := [.int s_13.2]) C (kX8_rows l D cy (w := gn) (wr := gnr) (wk := gnk) (wc := gnc) (wg := gng) (ws := gns) (wa := gna) (wb := gnb) hx_14) mX8_rows u_1384 u_1385 u_1386 1 rfl rfl 6 [1] [0, 2, 3, 4, 5] rfl (by decide +kernel) rfl rfl rfl rfl (Nat.le_of_ble_eq_true rfl) (Nat.le_of_ble_eq_true rfl) (Nat.le_of_ble_eq_true rfl) (Nat.le_of_ble_eq_true rfl) (Nat.le_of_ble_eq_true rfl) dX9_beatsFrom_27 rfl (fun _ _ hp => hp.2) (fun v_15 hp_17 => ?_)
  obtain ⟨rfl, -⟩ := hp_17
  refine xr_st (st' := [.int x_14, .int s_13.2]) rfl ?_
  refine xr_aload_n (n := 31) (j := 0) C dX9_beatsFrom_30 rfl rfl ?_
  obtain ⟨x_18, hx_18, ho_13⟩ := yf_b ho_13
  refine xr_callVp (n := 34) (As := []) (rest := [.int x_14, .int s_13.2]) C (kX9_h l D cy (g := g) (gth := gth) (gw := gw) (gB := gB) (gK := gK) (gU := gU) (gS := gS) (gbe := gbe) (gwo := gwo) (gta := gta) (gn := gn) (glr := glr) (glc := glc) (gti := gti) (ggo := ggo) (gR := gR) (gch := gch) (gD := gD) hx_18) mX9_h u_1430 u_1432 u_38 0 rfl rfl 6 [0] [1, 2, 3, 4, 5] rfl (by decide +kernel) rfl rfl rfl rfl (Nat.le_of_ble_eq_true rfl) (Nat.le_of_ble_eq_true rfl) (Nat.le_of_ble_eq_true rfl) (Nat.le_of_ble_eq_true rfl) (Nat.le_of_ble_eq_true rfl) dX9_beatsFrom_31 rfl (fun _ _ hp => hp.2) (fun v_19 hp_21 => ?_)
  obtain ⟨rfl, -⟩ := hp_21
  refine xr_st (st' := [.int x_18, .int x_14, .int s_13.2]) rfl ?_
  obtain ⟨x_22, hx_22, ho_13⟩ := yf_b ho_13
  refine xr_callSp (n := 37) (As := [.int x_14, .int x_18]) (rest := [.int s_13.2]) C (kX9_tiles l D cy (i1 := x_14) (i2 := x_18) hx_22) mX9_tiles u_1388 u_1389 6 [] [0, 1, 2, 3, 4, 5] rfl (by decide +kernel) rfl rfl rfl rfl (Nat.le_of_ble_eq_true rfl) (Nat.le_of_ble_eq_true rfl) (Nat.le_of_ble_eq_true rfl) (Nat.le_of_ble_eq_true rfl) (Nat.le_of_ble_eq_true rfl) dX9_beatsFrom_34 rfl (fun _ _ hp => hp.2) (fun v_23 hp_25 => ?_)
  obtain ⟨rfl, -⟩ := hp_25
  refine xr_st (st' := [.int x_22, .int s_13.2]) rfl ?_
  refine xr_iload_n (n := 38) (j := 2) C dX9_beatsFrom_37 rfl rfl ?_
  refine xr_imul (n := 39) C dX9_beatsFrom_38 rfl ?_
  refine xr_icmp_ge (tgt := 96) (n := 42) C dX9_beatsFrom_39 rfl rfl (fun c_26 => ?_) (fun c_26 => ?_)
  · replace ho_13 := yf_t c_26 ho_13
    refine xr_lv (lv' := [(1, .int s_13.1)]) [1] rfl ?_
    have e_27 := hx_13 _ (Option.some.inj ho_13).symm
    subst e_27
    exact K_13
  · replace ho_13 := yf_f c_26 ho_13
    refine xr_iload_n (n := 43) (j := 1) C dX9_beatsFrom_42 rfl rfl ?_
    refine xr_aload_n (n := 44) (j := 0) C dX9_beatsFrom_43 rfl rfl ?_
    refine xr_get (n := 47) C 0 rfl rfl 9 (by decide) in_X9 u_1246 rfl (v := .ref gn) rfl dX9_beatsFrom_44 rfl ?_
    obtain ⟨x_28, hx_28, ho_13⟩ := yf_b ho_13
    refine xr_callVp (n := 50) (As := []) (rest := [.int s_13.1]) C (kX8_rows l D cy (w := gn) (wr := gnr) (wk := gnk) (wc := gnc) (wg := gng) (ws := gns) (wa := gna) (wb := gnb) hx_28) mX8_rows u_1384 u_1385 u_1386 1 rfl rfl 6 [1] [0, 2, 3, 4, 5] rfl (by decide +kernel) rfl rfl rfl rfl (Nat.le_of_ble_eq_true rfl) (Nat.le_of_ble_eq_true rfl) (Nat.le_of_ble_eq_true rfl) (Nat.le_of_ble_eq_true rfl) (Nat.le_of_ble_eq_true rfl) dX9_beatsFrom_47 rfl (fun _ _ hp => hp.2) (fun v_29 hp_31 => ?_)
    obtain ⟨rfl, -⟩ := hp_31
    refine xr_st (st' := [.int x_28, .int s_13.1]) rfl ?_
    refine xr_aload_n (n := 51) (j := 0) C dX9_beatsFrom_50 rfl rfl ?_
    obtain ⟨x_32, hx_32, ho_13⟩ := yf_b ho_13
    refine xr_callVp (n := 54) (As := []) (rest := [.int x_28, .int s_13.1]) C (kX9_h l D cy (g := g) (gth := gth) (gw := gw) (gB := gB) (gK := gK) (gU := gU) (gS := gS) (gbe := gbe) (gwo := gwo) (gta := gta) (gn := gn) (glr := glr) (glc := glc) (gti := gti) (ggo := ggo) (gR := gR) (gch := gch) (gD := gD) hx_32) mX9_h u_1430 u_1432 u_38 0 rfl rfl 6 [0] [1, 2, 3, 4, 5] rfl (by decide +kernel) rfl rfl rfl rfl (Nat.le_of_ble_eq_true rfl) (Nat.le_of_ble_eq_true rfl) (Nat.le_of_ble_eq_true rfl) (Nat.le_of_ble_eq_true rfl) (Nat.le_of_ble_eq_true rfl) dX9_beatsFrom_51 rfl (fun _ _ hp => hp.2) (fun v_33 hp_35 => ?_)
    obtain ⟨rfl, -⟩ := hp_35
    refine xr_st (st' := [.int x_32, .int x_28, .int s_13.1]) rfl ?_
    refine xr_iload_n (n := 55) (j := 3) C dX9_beatsFrom_54 rfl rfl ?_
    refine xr_iload_n (n := 56) (j := 2) C dX9_beatsFrom_55 rfl rfl ?_
    obtain ⟨g_36, ho_13⟩ := yf_g ho_13
    refine xr_idiv (n := 57) C dX9_beatsFrom_56 g_36 rfl ?_
    obtain ⟨x_37, hx_37, ho_13⟩ := yf_b ho_13
    refine xr_callSp (n := 60) (As := [.int x_28, .int x_32, .int (s_13.2 / x_9)]) (rest := [.int s_13.1]) C (kX9_size l D cy (i1 := x_28) (i2 := x_32) (i3 := s_13.2 / x_9) hx_37) mX9_size u_1395 u_1396 6 [] [0, 1, 2, 3, 4, 5] rfl (by decide +kernel) rfl rfl rfl rfl (Nat.le_of_ble_eq_true rfl) (Nat.le_of_ble_eq_true rfl) (Nat.le_of_ble_eq_true rfl) (Nat.le_of_ble_eq_true rfl) (Nat.le_of_ble_eq_true rfl) dX9_beatsFrom_57 rfl (fun _ _ hp => hp.2) (fun v_38 hp_40 => ?_)
    obtain ⟨rfl, -⟩ := hp_40
    refine xr_st (st' := [.int x_37, .int s_13.1]) rfl ?_
    refine xr_aload_n (n := 61) (j := 0) C dX9_beatsFrom_60 rfl rfl ?_
    refine xr_get (n := 64) C 0 rfl rfl 9 (by decide) in_X9 u_1246 rfl (v := .ref gn) rfl dX9_beatsFrom_61 rfl ?_
    obtain ⟨x_41, hx_41, ho_13⟩ := yf_b ho_13
    refine xr_callVp (n := 67) (As := []) (rest := [.int x_37, .int s_13.1]) C (kX8_columns l D cy (w := gn) (wr := gnr) (wk := gnk) (wc := gnc) (wg := gng) (ws := gns) (wa := gna) (wb := gnb) hx_41) mX8_columns u_1391 u_1392 u_1393 1 rfl rfl 6 [1] [0, 2, 3, 4, 5] rfl (by decide +kernel) rfl rfl rfl rfl (Nat.le_of_ble_eq_true rfl) (Nat.le_of_ble_eq_true rfl) (Nat.le_of_ble_eq_true rfl) (Nat.le_of_ble_eq_true rfl) (Nat.le_of_ble_eq_true rfl) dX9_beatsFrom_64 rfl (fun _ _ hp => hp.2) (fun v_42 hp_44 => ?_)
    obtain ⟨rfl, -⟩ := hp_44
    refine xr_st (st' := [.int x_41, .int x_37, .int s_13.1]) rfl ?_
    refine xr_aload_n (n := 68) (j := 0) C dX9_beatsFrom_67 rfl rfl ?_
    obtain ⟨x_45, hx_45, ho_13⟩ := yf_b ho_13
    refine xr_callVp (n := 71) (As := []) (rest := [.int x_41, .int x_37, .int s_13.1]) C (kX9_w l D cy (g := g) (gth := gth) (gw := gw) (gB := gB) (gK := gK) (gU := gU) (gS := gS) (gbe := gbe) (gwo := gwo) (gta := gta) (gn := gn) (glr := glr) (glc := glc) (gti := gti) (ggo := ggo) (gR := gR) (gch := gch) (gD := gD) hx_45) mX9_w u_1426 u_1428 u_37 0 rfl rfl 6 [0] [1, 2, 3, 4, 5] rfl (by decide +kernel) rfl rfl rfl rfl (Nat.le_of_ble_eq_true rfl) (Nat.le_of_ble_eq_true rfl) (Nat.le_of_ble_eq_true rfl) (Nat.le_of_ble_eq_true rfl) (Nat.le_of_ble_eq_true rfl) dX9_beatsFrom_68 rfl (fun _ _ hp => hp.2) (fun v_46 hp_48 => ?_)
    obtain ⟨rfl, -⟩ := hp_48
    refine xr_st (st' := [.int x_45, .int x_41, .int x_37, .int s_13.1]) rfl ?_
    refine xr_iload_n (n := 72) (j := 3) C dX9_beatsFrom_71 rfl rfl ?_
    refine xr_iload_n (n := 73) (j := 2) C dX9_beatsFrom_72 rfl rfl ?_
    obtain ⟨g_49, ho_13⟩ := yf_g ho_13
    refine xr_irem (n := 74) C dX9_beatsFrom_73 g_49 rfl ?_
    obtain ⟨x_50, hx_50, ho_13⟩ := yf_b ho_13
    refine xr_callSp (n := 77) (As := [.int x_41, .int x_45, .int (s_13.2 - s_13.2 / x_9 * x_9)]) (rest := [.int x_37, .int s_13.1]) C (kX9_size l D cy (i1 := x_41) (i2 := x_45) (i3 := s_13.2 - s_13.2 / x_9 * x_9) hx_50) mX9_size u_1395 u_1396 6 [] [0, 1, 2, 3, 4, 5] rfl (by decide +kernel) rfl rfl rfl rfl (Nat.le_of_ble_eq_true rfl) (Nat.le_of_ble_eq_true rfl) (Nat.le_of_ble_eq_true rfl) (Nat.le_of_ble_eq_true rfl) (Nat.le_of_ble_eq_true rfl) dX9_beatsFrom_74 rfl (fun _ _ hp => hp.2) (fun v_51 hp_53 => ?_)
    obtain ⟨rfl, -⟩ := hp_53
    refine xr_st (st' := [.int x_50, .int x_37, .int s_13.1]) rfl ?_
    refine xr_iadd (n := 78) C dX9_beatsFrom_77 rfl ?_
    refine xr_aload_n (n := 79) (j := 0) C dX9_beatsFrom_78 rfl rfl ?_
    refine xr_get (n := 82) C 0 rfl rfl 9 (by decide) in_X9 u_1246 rfl (v := .ref gn) rfl dX9_beatsFrom_79 rfl ?_
    obtain ⟨x_54, hx_54, ho_13⟩ := yf_b ho_13
    refine xr_callVp (n := 85) (As := []) (rest := [.int (x_37 + x_50), .int s_13.1]) C (kX8_steps l D cy (w := gn) (wr := gnr) (wk := gnk) (wc := gnc) (wg := gng) (ws := gns) (wa := gna) (wb := gnb) (wad := gnad) (wan := gnan) (wak := gnak) (waG := gnaG) (wbd := gnbd) (wbn := gnbn) (wbk := gnbk) (wbG := gnbG) hx_54) mX8_steps u_1359 u_1360 u_1361 1 rfl rfl 6 [1, 2, 3, 4, 5] [0] rfl (by decide +kernel) rfl rfl rfl rfl (Nat.le_of_ble_eq_true rfl) (Nat.le_of_ble_eq_true rfl) (Nat.le_of_ble_eq_true rfl) (Nat.le_of_ble_eq_true rfl) (Nat.le_of_ble_eq_true rfl) dX9_beatsFrom_82 rfl (fun _ _ hp => hp.2) (fun v_55 hp_57 => ?_)
    obtain ⟨rfl, -⟩ := hp_57
    refine xr_st (st' := [.int x_54, .int (x_37 + x_50), .int s_13.1]) rfl ?_
    refine xr_iadd (n := 86) C dX9_beatsFrom_85 rfl ?_
    refine xr_iconst (n := 87) (v := 1) C dX9_beatsFrom_86 rfl rfl ?_
    refine xr_isub (n := 88) C dX9_beatsFrom_87 rfl ?_
    refine xr_iadd (n := 89) C dX9_beatsFrom_88 rfl ?_
    refine xr_istore_n (n := 90) C [(1, .int (s_13.1 + (((x_37 + x_50) + x_54) - 1))), (0, .ref g), (2, .int x_9), (3, .int s_13.2)] dX9_beatsFrom_89 (by decide) rfl rfl ?_
    refine xr_iinc (j := 3) (v := s_13.2 + 1) (n := 93) C [(3, .int (s_13.2 + 1)), (1, .int (s_13.1 + (((x_37 + x_50) + x_54) - 1))), (0, .ref g), (2, .int x_9)] dX9_beatsFrom_90 rfl rfl (by decide) rfl rfl ?_
    refine xr_goto (tgt := 22) C dX9_beatsFrom_93 rfl ?_
    refine xr_lv (lv' := [(0, .ref g), (1, .int (s_13.1 + (((x_37 + x_50) + x_54) - 1))), (2, .int x_9), (3, .int (s_13.2 + 1))]) [2, 1, 3, 0] rfl ?_
    exact hk_13 (s_13.1 + (((x_37 + x_50) + x_54) - 1), s_13.2 + 1) (Option.some.inj ho_13).symm
theorem dX9_left__0 : decode cX9_left_ 0 = .ok (.aload_n 0, 1) := by decide +kernel
theorem dX9_left__1 : decode cX9_left_ 1 = .ok (.getfield 137, 3) := by decide +kernel
theorem dX9_left__4 : decode cX9_left_ 4 = .ok (.ifnonnull 7, 3) := by decide +kernel
theorem dX9_left__7 : decode cX9_left_ 7 = .ok (.iconst 0, 1) := by decide +kernel
theorem dX9_left__8 : decode cX9_left_ 8 = .ok (.goto 12, 3) := by decide +kernel
theorem dX9_left__11 : decode cX9_left_ 11 = .ok (.aload_n 0, 1) := by decide +kernel
theorem dX9_left__12 : decode cX9_left_ 12 = .ok (.invokevirtual 190, 3) := by decide +kernel
theorem dX9_left__15 : decode cX9_left_ 15 = .ok (.aload_n 0, 1) := by decide +kernel
theorem dX9_left__16 : decode cX9_left_ 16 = .ok (.getfield 167, 3) := by decide +kernel
theorem dX9_left__19 : decode cX9_left_ 19 = .ok (.isub, 1) := by decide +kernel
theorem dX9_left__20 : decode cX9_left_ 20 = .ok (.ireturn, 1) := by decide +kernel
def fX9_rest_i  : Option (Int32) := some 0
abbrev hX9_left_ : Cond := .code yX9_left_ cX9_left_ 1 (some .int)
theorem mX9_left_ : yM yX9_left_ hX9_left_ 0 := ⟨u_1421, u_64, by decide +kernel, by decide +kernel, by decide +kernel⟩
set_option maxHeartbeats 4000000 in
set_option maxRecDepth 100000 in
theorem kX9_rest_i (l : Launch) (D : va_G) (cy : Nat → ClassId) (g : Nat) (gth : Int32) (gw : Nat) (gB : Nat) (gK : Nat) (gU : Nat) (gS : Nat) (gbe : Int32) (gwo : Int32) (gta : Int64) (glr : Int32) (glc : Int32) (gti : Int32) (ggo : Int32) (gR : Nat) (gch : Int32) (gD : Nat) {res : Int32} (hR : fX9_rest_i  = some res) : YM l D cy yX9_left_ hX9_left_ 1 0 0 [.ref g] [[(g, .inr (11, [.int gth, .ref gw, .ref gB, .ref gK, .ref gU, .ref gS, .int gbe, .int gwo, .long gta, .null, .int glr, .int glc, .int gti, .int ggo, .ref gR, .int gch, .ref gD]))]] (fun v u => v = some (.int res) ∧ u = [[(g, .inr (11, [.int gth, .ref gw, .ref gB, .ref gK, .ref gU, .ref gS, .int gbe, .int gwo, .long gta, .null, .int glr, .int glc, .int gti, .int ggo, .ref gR, .int gch, .ref gD]))]]) := by
  unfold fX9_rest_i at hR
  refine YM.ofI (cc := cX9_left_) (maxL := 1) (ret := (some .int)) (by decide +kernel) rfl (Nat.le_of_ble_eq_true rfl) [(0, .ref g)] rfl rfl (fun p e s m args below meth c A H0 Q C hnm ret => ?_)
  refine xr_aload_n (n := 1) (j := 0) C dX9_left__0 rfl rfl ?_
  refine xr_get (n := 4) C 0 rfl rfl 9 (by decide) in_X9 u_1246 rfl (v := .null) rfl dX9_left__1 rfl ?_
  refine xr_ifnonnullN (n := 7) C dX9_left__4 rfl ?_
  refine xr_iconst (n := 8) (v := 0) C dX9_left__7 rfl rfl ?_
  refine xr_goto (tgt := 20) C dX9_left__8 rfl ?_
  obtain rfl := Option.some.inj hR
  exact ret 0 ⟨rfl, rfl⟩ (Nat.le_of_ble_eq_true rfl) (Nat.le_of_ble_eq_true rfl) dX9_left__20
def fX9_rest_r (glr : Int32) (glc : Int32) (gti : Int32) (ggo : Int32) (gnr : Int32) (gnk : Int32) (gnc : Int32) (gng : Int32) (gns : Int32) (gnan : Nat) (gnak : Nat) (gnaG : Nat → Nat → Int32) (gnbn : Nat) (gnbk : Nat) (gnbG : Nat → Nat → Int32) : Option (Int32) := ((fX9_beatsFrom glr glc gti gnr gnk gnc gng gns gnan gnak gnaG gnbn gnbk gnbG).bind fun x_1 => some (x_1 - ggo))
set_option maxHeartbeats 4000000 in
set_option maxRecDepth 100000 in
theorem kX9_rest_r (l : Launch) (D : va_G) (cy : Nat → ClassId) (g : Nat) (gth : Int32) (gw : Nat) (gB : Nat) (gK : Nat) (gU : Nat) (gS : Nat) (gbe : Int32) (gwo : Int32) (gta : Int64) (gn : Nat) (glr : Int32) (glc : Int32) (gti : Int32) (ggo : Int32) (gR : Nat) (gch : Int32) (gD : Nat) (gnr : Int32) (gnk : Int32) (gnc : Int32) (gng : Int32) (gns : Int32) (gna : Nat) (gnb : Nat) (gnad : Nat → Nat) (gnan : Nat) (gnak : Nat) (gnaG : Nat → Nat → Int32) (gnbd : Nat → Nat) (gnbn : Nat) (gnbk : Nat) (gnbG : Nat → Nat → Int32) {res : Int32} (hR : fX9_rest_r glr glc gti ggo gnr gnk gnc gng gns gnan gnak gnaG gnbn gnbk gnbG = some res) : YM l D cy yX9_left_ hX9_left_ 5 0 0 [.ref g] [[(g, .inr (11, [.int gth, .ref gw, .ref gB, .ref gK, .ref gU, .ref gS, .int gbe, .int gwo, .long gta, .ref gn, .int glr, .int glc, .int gti, .int ggo, .ref gR, .int gch, .ref gD]))], [(gn, .inr (10, [.int gnr, .int gnk, .int gnc, .int gng, .int gns, .ref gna, .ref gnb]))], [(gna, .inl (cy 3, gnan, .inr (.inr (.inr (.inr (yad gnad))))))], xg_rows gnad gnan (cy 1) gnak gnaG, [(gnb, .inl (cy 3, gnbn, .inr (.inr (.inr (.inr (yad gnbd))))))], xg_rows gnbd gnbn (cy 1) gnbk gnbG] (fun v u => v = some (.int res) ∧ u = [[(g, .inr (11, [.int gth, .ref gw, .ref gB, .ref gK, .ref gU, .ref gS, .int gbe, .int gwo, .long gta, .ref gn, .int glr, .int glc, .int gti, .int ggo, .ref gR, .int gch, .ref gD]))], [(gn, .inr (10, [.int gnr, .int gnk, .int gnc, .int gng, .int gns, .ref gna, .ref gnb]))], [(gna, .inl (cy 3, gnan, .inr (.inr (.inr (.inr (yad gnad))))))], xg_rows gnad gnan (cy 1) gnak gnaG, [(gnb, .inl (cy 3, gnbn, .inr (.inr (.inr (.inr (yad gnbd))))))], xg_rows gnbd gnbn (cy 1) gnbk gnbG]) := by
  unfold fX9_rest_r at hR
  refine YM.ofI (cc := cX9_left_) (maxL := 1) (ret := (some .int)) (by decide +kernel) rfl (Nat.le_of_ble_eq_true rfl) [(0, .ref g)] rfl rfl (fun p e s m args below meth c A H0 Q C hnm ret => ?_)
  refine xr_aload_n (n := 1) (j := 0) C dX9_left__0 rfl rfl ?_
  refine xr_get (n := 4) C 0 rfl rfl 9 (by decide) in_X9 u_1246 rfl (v := .ref gn) rfl dX9_left__1 rfl ?_
  refine xr_ifnonnull (tgt := 11) C dX9_left__4 rfl ?_
  refine xr_aload_n (n := 12) (j := 0) C dX9_left__11 rfl rfl ?_
  obtain ⟨x_1, hx_1, hR⟩ := yf_b hR
  refine xr_callVp (n := 15) (As := []) (rest := []) C (kX9_beatsFrom l D cy (g := g) (gth := gth) (gw := gw) (gB := gB) (gK := gK) (gU := gU) (gS := gS) (gbe := gbe) (gwo := gwo) (gta := gta) (gn := gn) (glr := glr) (glc := glc) (gti := gti) (ggo := ggo) (gR := gR) (gch := gch) (gD := gD) (gnr := gnr) (gnk := gnk) (gnc := gnc) (gng := gng) (gns := gns) (gna := gna) (gnb := gnb) (gnad := gnad) (gnan := gnan) (gnak := gnak) (gnaG := gnaG) (gnbd := gnbd) (gnbn := gnbn) (gnbk := gnbk) (gnbG := gnbG) hx_1) mX9_beatsFrom u_1422 u_1424 u_36 0 rfl rfl 6 [0, 1, 2, 3, 4, 5] [] rfl (by decide +kernel) rfl rfl rfl rfl (Nat.le_of_ble_eq_true rfl) (Nat.le_of_ble_eq_true rfl) (Nat.le_of_ble_eq_true rfl) (Nat.le_of_ble_eq_true rfl) (Nat.le_of_ble_eq_true rfl) dX9_left__12 rfl (fun _ _ hp => hp.2) (fun v_2 hp_4 => ?_)
  obtain ⟨rfl, -⟩ := hp_4
  refine xr_st (st' := [.int x_1]) rfl ?_
  refine xr_aload_n (n := 16) (j := 0) C dX9_left__15 rfl rfl ?_
  refine xr_get (n := 19) C 0 rfl rfl 13 (by decide) in_X9 u_1250 rfl (v := .int ggo) rfl dX9_left__16 rfl ?_
  refine xr_isub (n := 20) C dX9_left__19 rfl ?_
  obtain rfl := Option.some.inj hR
  exact ret (x_1 - ggo) ⟨rfl, rfl⟩ (Nat.le_of_ble_eq_true rfl) (Nat.le_of_ble_eq_true rfl) dX9_left__20
theorem dX9_stepTaken_0 : decode cX9_stepTaken 0 = .ok (.iload_n 1, 1) := by decide +kernel
theorem dX9_stepTaken_1 : decode cX9_stepTaken 1 = .ok (.iload_n 2, 1) := by decide +kernel
theorem dX9_stepTaken_2 : decode cX9_stepTaken 2 = .ok (.isub, 1) := by decide +kernel
theorem dX9_stepTaken_3 : decode cX9_stepTaken 3 = .ok (.iload_n 3, 1) := by decide +kernel
theorem dX9_stepTaken_4 : decode cX9_stepTaken 4 = .ok (.isub, 1) := by decide +kernel
theorem dX9_stepTaken_5 : decode cX9_stepTaken 5 = .ok (.iconst 0, 1) := by decide +kernel
theorem dX9_stepTaken_6 : decode cX9_stepTaken 6 = .ok (.aload_n 0, 1) := by decide +kernel
theorem dX9_stepTaken_7 : decode cX9_stepTaken 7 = .ok (.getfield 137, 3) := by decide +kernel
theorem dX9_stepTaken_10 : decode cX9_stepTaken 10 = .ok (.invokevirtual 120, 3) := by decide +kernel
theorem dX9_stepTaken_13 : decode cX9_stepTaken 13 = .ok (.iconst 1, 1) := by decide +kernel
theorem dX9_stepTaken_14 : decode cX9_stepTaken 14 = .ok (.isub, 1) := by decide +kernel
theorem dX9_stepTaken_15 : decode cX9_stepTaken 15 = .ok (.invokestatic 75, 3) := by decide +kernel
theorem dX9_stepTaken_18 : decode cX9_stepTaken 18 = .ok (.ifCond .eq 11, 3) := by decide +kernel
theorem dX9_stepTaken_21 : decode cX9_stepTaken 21 = .ok (.iload_n 1, 1) := by decide +kernel
theorem dX9_stepTaken_22 : decode cX9_stepTaken 22 = .ok (.iload_n 2, 1) := by decide +kernel
theorem dX9_stepTaken_23 : decode cX9_stepTaken 23 = .ok (.isub, 1) := by decide +kernel
theorem dX9_stepTaken_24 : decode cX9_stepTaken 24 = .ok (.iload_n 3, 1) := by decide +kernel
theorem dX9_stepTaken_25 : decode cX9_stepTaken 25 = .ok (.isub, 1) := by decide +kernel
theorem dX9_stepTaken_26 : decode cX9_stepTaken 26 = .ok (.goto 4, 3) := by decide +kernel
theorem dX9_stepTaken_29 : decode cX9_stepTaken 29 = .ok (.iconst (-1), 1) := by decide +kernel
theorem dX9_stepTaken_30 : decode cX9_stepTaken 30 = .ok (.ireturn, 1) := by decide +kernel
def fX9_stepTaken (gnk : Int32) (gng : Int32) (gnan : Nat) (gnak : Nat) (gnaG : Nat → Nat → Int32) (gnbn : Nat) (gnbk : Nat) (gnbG : Nat → Nat → Int32) (i1 : Int32) (i2 : Int32) (i3 : Int32) : Option (Int32) := ((fX8_steps gnk gng gnan gnak gnaG gnbn gnbk gnbG).bind fun x_1 => ((fX9_isIn ((i1 - i2) - i3) 0 (x_1 - 1)).bind fun x_5 => (if x_5 = 0 then some (-1) else some ((i1 - i2) - i3))))
abbrev hX9_stepTaken : Cond := .code yX9_stepTaken cX9_stepTaken 4 (some .int)
theorem mX9_stepTaken : yM yX9_stepTaken hX9_stepTaken 3 := ⟨u_1454, u_64, by decide +kernel, by decide +kernel, by decide +kernel⟩
set_option maxHeartbeats 4000000 in
set_option maxRecDepth 100000 in
theorem kX9_stepTaken (l : Launch) (D : va_G) (cy : Nat → ClassId) (g : Nat) (gth : Int32) (gw : Nat) (gB : Nat) (gK : Nat) (gU : Nat) (gS : Nat) (gbe : Int32) (gwo : Int32) (gta : Int64) (gn : Nat) (glr : Int32) (glc : Int32) (gti : Int32) (ggo : Int32) (gR : Nat) (gch : Int32) (gD : Nat) (gnr : Int32) (gnk : Int32) (gnc : Int32) (gng : Int32) (gns : Int32) (gna : Nat) (gnb : Nat) (gnad : Nat → Nat) (gnan : Nat) (gnak : Nat) (gnaG : Nat → Nat → Int32) (gnbd : Nat → Nat) (gnbn : Nat) (gnbk : Nat) (gnbG : Nat → Nat → Int32) (i1 : Int32) (i2 : Int32) (i3 : Int32) {res : Int32} (hR : fX9_stepTaken gnk gng gnan gnak gnaG gnbn gnbk gnbG i1 i2 i3 = some res) : YM l D cy yX9_stepTaken hX9_stepTaken 4 0 0 [.ref g, .int i1, .int i2, .int i3] [[(g, .inr (11, [.int gth, .ref gw, .ref gB, .ref gK, .ref gU, .ref gS, .int gbe, .int gwo, .long gta, .ref gn, .int glr, .int glc, .int gti, .int ggo, .ref gR, .int gch, .ref gD]))], [(gn, .inr (10, [.int gnr, .int gnk, .int gnc, .int gng, .int gns, .ref gna, .ref gnb]))], [(gna, .inl (cy 3, gnan, .inr (.inr (.inr (.inr (yad gnad))))))], xg_rows gnad gnan (cy 1) gnak gnaG, [(gnb, .inl (cy 3, gnbn, .inr (.inr (.inr (.inr (yad gnbd))))))], xg_rows gnbd gnbn (cy 1) gnbk gnbG] (fun v u => v = some (.int res) ∧ u = [[(g, .inr (11, [.int gth, .ref gw, .ref gB, .ref gK, .ref gU, .ref gS, .int gbe, .int gwo, .long gta, .ref gn, .int glr, .int glc, .int gti, .int ggo, .ref gR, .int gch, .ref gD]))], [(gn, .inr (10, [.int gnr, .int gnk, .int gnc, .int gng, .int gns, .ref gna, .ref gnb]))], [(gna, .inl (cy 3, gnan, .inr (.inr (.inr (.inr (yad gnad))))))], xg_rows gnad gnan (cy 1) gnak gnaG, [(gnb, .inl (cy 3, gnbn, .inr (.inr (.inr (.inr (yad gnbd))))))], xg_rows gnbd gnbn (cy 1) gnbk gnbG]) := by
  unfold fX9_stepTaken at hR
  refine YM.ofI (cc := cX9_stepTaken) (maxL := 4) (ret := (some .int)) (by decide +kernel) rfl (Nat.le_of_ble_eq_true rfl) [(0, .ref g), (1, .int i1), (2, .int i2), (3, .int i3)] rfl rfl (fun p e s m args below meth c A H0 Q C hnm ret => ?_)
  refine xr_iload_n (n := 1) (j := 1) C dX9_stepTaken_0 rfl rfl ?_
  refine xr_iload_n (n := 2) (j := 2) C dX9_stepTaken_1 rfl rfl ?_
  refine xr_isub (n := 3) C dX9_stepTaken_2 rfl ?_
  refine xr_iload_n (n := 4) (j := 3) C dX9_stepTaken_3 rfl rfl ?_
  refine xr_isub (n := 5) C dX9_stepTaken_4 rfl ?_
  refine xr_iconst (n := 6) (v := 0) C dX9_stepTaken_5 rfl rfl ?_
  refine xr_aload_n (n := 7) (j := 0) C dX9_stepTaken_6 rfl rfl ?_
  refine xr_get (n := 10) C 0 rfl rfl 9 (by decide) in_X9 u_1246 rfl (v := .ref gn) rfl dX9_stepTaken_7 rfl ?_
  obtain ⟨x_1, hx_1, hR⟩ := yf_b hR
  refine xr_callVp (n := 13) (As := []) (rest := [.int 0, .int ((i1 - i2) - i3)]) C (kX8_steps l D cy (w := gn) (wr := gnr) (wk := gnk) (wc := gnc) (wg := gng) (ws := gns) (wa := gna) (wb := gnb) (wad := gnad) (wan := gnan) (wak := gnak) (waG := gnaG) (wbd := gnbd) (wbn := gnbn) (wbk := gnbk) (wbG := gnbG) hx_1) mX8_steps u_1359 u_1360 u_1361 1 rfl rfl 6 [1, 2, 3, 4, 5] [0] rfl (by decide +kernel) rfl rfl rfl rfl (Nat.le_of_ble_eq_true rfl) (Nat.le_of_ble_eq_true rfl) (Nat.le_of_ble_eq_true rfl) (Nat.le_of_ble_eq_true rfl) (Nat.le_of_ble_eq_true rfl) dX9_stepTaken_10 rfl (fun _ _ hp => hp.2) (fun v_2 hp_4 => ?_)
  obtain ⟨rfl, -⟩ := hp_4
  refine xr_st (st' := [.int x_1, .int 0, .int ((i1 - i2) - i3)]) rfl ?_
  refine xr_iconst (n := 14) (v := 1) C dX9_stepTaken_13 rfl rfl ?_
  refine xr_isub (n := 15) C dX9_stepTaken_14 rfl ?_
  obtain ⟨x_5, hx_5, hR⟩ := yf_b hR
  refine xr_callSp (n := 18) (As := [.int ((i1 - i2) - i3), .int 0, .int (x_1 - 1)]) (rest := []) C (kX9_isIn l D cy (i1 := (i1 - i2) - i3) (i2 := 0) (i3 := x_1 - 1) hx_5) mX9_isIn u_1298 u_1299 6 [] [0, 1, 2, 3, 4, 5] rfl (by decide +kernel) rfl rfl rfl rfl (Nat.le_of_ble_eq_true rfl) (Nat.le_of_ble_eq_true rfl) (Nat.le_of_ble_eq_true rfl) (Nat.le_of_ble_eq_true rfl) (Nat.le_of_ble_eq_true rfl) dX9_stepTaken_15 rfl (fun _ _ hp => hp.2) (fun v_6 hp_8 => ?_)
  obtain ⟨rfl, -⟩ := hp_8
  refine xr_st (st' := [.int x_5]) rfl ?_
  refine xr_if_eq (tgt := 29) (n := 21) C dX9_stepTaken_18 rfl rfl (fun c_9 => ?_) (fun c_9 => ?_)
  · replace hR := yf_t c_9 hR
    refine xr_iconst (n := 30) (v := -1) C dX9_stepTaken_29 rfl rfl ?_
    obtain rfl := Option.some.inj hR
    exact ret (-1) ⟨rfl, rfl⟩ (Nat.le_of_ble_eq_true rfl) (Nat.le_of_ble_eq_true rfl) dX9_stepTaken_30
  · replace hR := yf_f c_9 hR
    refine xr_iload_n (n := 22) (j := 1) C dX9_stepTaken_21 rfl rfl ?_
    refine xr_iload_n (n := 23) (j := 2) C dX9_stepTaken_22 rfl rfl ?_
    refine xr_isub (n := 24) C dX9_stepTaken_23 rfl ?_
    refine xr_iload_n (n := 25) (j := 3) C dX9_stepTaken_24 rfl rfl ?_
    refine xr_isub (n := 26) C dX9_stepTaken_25 rfl ?_
    refine xr_goto (tgt := 30) C dX9_stepTaken_26 rfl ?_
    obtain rfl := Option.some.inj hR
    exact ret ((i1 - i2) - i3) ⟨rfl, rfl⟩ (Nat.le_of_ble_eq_true rfl) (Nat.le_of_ble_eq_true rfl) dX9_stepTaken_30
