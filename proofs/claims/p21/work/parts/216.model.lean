theorem u_1433 : Cond.code yX9_beat cX9_beat 3 (some .int) ∈ yU := yu_tables_1_6 177 (by decide +kernel) (by decide +kernel)
theorem u_1434 : Cond.methodLink RX9 226 yX9_one_ ∈ yU := yu_tables_1_6 178 (by decide +kernel) (by decide +kernel)
theorem u_1436 : Cond.instanceMethod yX9_one_ ∈ yU := yu_tables_1_6 180 (by decide +kernel) (by decide +kernel)
theorem u_39 : Cond.selects RX9 yX9_one_ yX9_one_ ∈ yU := yu 39 (by decide +kernel) (by decide +kernel)
theorem u_1563 : Cond.code yX9_bestTold cX9_bestTold 7 (some .int) ∈ yU := yu_tables_1_7 67 (by decide +kernel) (by decide +kernel)
theorem u_1560 : Cond.methodLink RX9 269 yX9_bestTold ∈ yU := yu_tables_1_7 64 (by decide +kernel) (by decide +kernel)
theorem u_1562 : Cond.instanceMethod yX9_bestTold ∈ yU := yu_tables_1_7 66 (by decide +kernel) (by decide +kernel)
theorem u_52 : Cond.selects RX9 yX9_bestTold yX9_bestTold ∈ yU := yu 52 (by decide +kernel) (by decide +kernel)
theorem u_1559 : Cond.code yX9_best cX9_best 2 (some .int) ∈ yU := yu_tables_1_7 63 (by decide +kernel) (by decide +kernel)
theorem dd_X9_beat_0 : dk_R cX9_beat [(0, .aload_n 0, 1), (1, .iload_n 1, 1), (2, .iconst 1, 1), (3, .sipush 300, 3), (6, .invokestatic 75, 3), (9, .ifCond .ne 7, 3), (12, .iconst 1, 1), (13, .goto 4, 3), (16, .iconst 0, 1), (17, .iconst 1, 1), (18, .invokevirtual 79, 3), (21, .ifCond .ne 23, 3), (24, .aload_n 0, 1), (25, .aload_n 0, 1), (26, .getfield 137, 3), (29, .ifnonnull 7, 3)] := dk_use _ _ (by decide +kernel)
theorem dd_X9_beat_1 : dk_R cX9_beat [(32, .iconst 1, 1), (33, .goto 4, 3), (36, .iconst 0, 1), (37, .iconst 2, 1), (38, .invokevirtual 67, 3), (41, .ifCond .eq 5, 3), (44, .iconst 0, 1), (45, .ireturn, 1), (46, .iconst 0, 1), (47, .istore_n 2, 1), (48, .iload_n 2, 1), (49, .iload_n 1, 1), (50, .if_icmp .ge 20, 3), (53, .aload_n 0, 1), (54, .getfield 137, 3), (57, .ifnull 13, 3)] := dk_use _ _ (by decide +kernel)
theorem dd_X9_beat_2 : dk_R cX9_beat [(60, .aload_n 0, 1), (61, .invokevirtual 226, 3), (64, .iinc 2 1, 3), (67, .goto (-19), 3), (70, .aload_n 0, 1), (71, .invokevirtual 187, 3), (74, .ireturn, 1)] := dk_use _ _ (by decide +kernel)
def fX9_beat_i (i1 : Int32) : Option (Int32 × Int32) := ((fX9_isIn i1 1 300).bind fun x_1 => ((((if x_1 = 0 then some 1 else some 0) : Option (Int32))).bind fun r_6 => ((fX9_start_i r_6 1).bind fun x_7 => (if x_7.1 = 0 then ((fX9_refuse_i x_7.2 1 2).bind fun x_12 => (if x_12.1 = 0 then ((wl (S := Unit) (B := Unit) (fun s_17 => (if i1 ≤ (0 : Int32) then some (.inr ()) else some (.inr ()))) yFuel ()).bind fun b_17 => ((fX9_rest_i).bind fun x_18 => some (0, x_12.2))) else some (0, x_12.2))) else some (0, x_7.2)))))
abbrev hX9_beat : Cond := .code yX9_beat cX9_beat 3 (some .int)
theorem mX9_beat : yM yX9_beat hX9_beat 1 := ⟨u_1433, u_64, by decide +kernel, by decide +kernel, by decide +kernel⟩
set_option maxHeartbeats 4000000 in
set_option maxRecDepth 100000 in
theorem kX9_beat_i (l : Launch) (D : va_G) (cy : Nat → ClassId) (g : Nat) (gth : Int32) (gw : Nat) (gB : Nat) (gK : Nat) (gU : Nat) (gS : Nat) (gbe : Int32) (gwo : Int32) (gta : Int64) (glr : Int32) (glc : Int32) (gti : Int32) (ggo : Int32) (gR : Nat) (gch : Int32) (gD : Nat) (i1 : Int32) {res : Int32 × Int32} (hR : fX9_beat_i i1 = some res) : YM l D cy yX9_beat hX9_beat 6 200 1800 [.ref g, .int i1] [[(g, .inr (11, [.int gth, .ref gw, .ref gB, .ref gK, .ref gU, .ref gS, .int gbe, .int gwo, .long gta, .null, .int glr, .int glc, .int gti, .int ggo, .ref gR, .int gch, .ref gD]))]] (fun v u => v = some (.int res.1) ∧ u = [[(g, .inr (11, [.int res.2, .ref gw, .ref gB, .ref gK, .ref gU, .ref gS, .int gbe, .int gwo, .long gta, .null, .int glr, .int glc, .int gti, .int ggo, .ref gR, .int gch, .ref gD]))]]) := by
  unfold fX9_beat_i at hR
  refine YM.ofI (cc := cX9_beat) (maxL := 3) (ret := (some .int)) (by decide +kernel) rfl (Nat.le_of_ble_eq_true rfl) [(0, .ref g), (1, .int i1)] rfl rfl (fun p e s m args below meth c A H0 Q C hnm ret => ?_)
  refine xr_aload_n (n := 1) (j := 0) C dd_X9_beat_0.1 rfl rfl ?_
  refine xr_iload_n (n := 2) (j := 1) C dd_X9_beat_0.2.1 rfl rfl ?_
  refine xr_iconst (n := 3) (v := 1) C dd_X9_beat_0.2.2.1 rfl rfl ?_
  refine xr_sipush (n := 6) (v := 300) C dd_X9_beat_0.2.2.2.1 rfl rfl ?_
  obtain ⟨x_1, hx_1, hR⟩ := yf_b hR
  refine xr_callSp (n := 9) (As := [.int i1, .int 1, .int 300]) (rest := [.ref g]) C (kX9_isIn l D cy (i1 := i1) (i2 := 1) (i3 := 300) hx_1) mX9_isIn u_1294 u_1295 1 [] [0] rfl (by decide +kernel) rfl rfl rfl rfl (Nat.le_of_ble_eq_true rfl) (Nat.le_of_ble_eq_true rfl) (Nat.le_of_ble_eq_true rfl) (Nat.le_of_ble_eq_true rfl) (Nat.le_of_ble_eq_true rfl) dd_X9_beat_0.2.2.2.2.1 rfl (fun _ _ hp => hp.2) (fun v_2 hp_4 => ?_)
  obtain ⟨rfl, -⟩ := hp_4
  refine xr_st (st' := [.int x_1, .ref g]) rfl ?_
  obtain ⟨r_6, hE_6, hR⟩ := yf_b hR
  have J_6 : X p l e (yR 6 200 1800) s m args below meth c D A H0 3 Q [[(g, .inr (11, [.int gth, .ref gw, .ref gB, .ref gK, .ref gU, .ref gS, .int gbe, .int gwo, .long gta, .null, .int glr, .int glc, .int gti, .int ggo, .ref gR, .int gch, .ref gD]))]] 0 0 [(0, .ref g), (1, .int i1)] 17 [.int r_6, .ref g] := by
    refine xr_iconst (n := 18) (v := 1) C dd_X9_beat_0.2.2.2.2.2.2.2.2.2.1 rfl rfl ?_
    obtain ⟨x_7, hx_7, hR⟩ := yf_b hR
    refine xr_callV (n := 21) (As := [.int r_6, .int 1]) (rest := []) C (kX9_start_i l D cy (g := g) (gth := gth) (gw := gw) (gB := gB) (gK := gK) (gU := gU) (gS := gS) (gbe := gbe) (gwo := gwo) (gta := gta) (glr := glr) (glc := glc) (gti := gti) (ggo := ggo) (gR := gR) (gch := gch) (gD := gD) (i1 := r_6) (i2 := 1) hx_7) mX9_start u_1297 u_1299 u_29 0 rfl rfl 1 [0] [] rfl (by decide +kernel) rfl rfl rfl rfl (Nat.le_of_ble_eq_true rfl) (Nat.le_of_ble_eq_true rfl) (Nat.le_of_ble_eq_true rfl) (Nat.le_of_ble_eq_true rfl) (Nat.le_of_ble_eq_true rfl) dd_X9_beat_0.2.2.2.2.2.2.2.2.2.2.1 rfl (fun v_8 u_9 hp_10 => ?_)
    obtain ⟨rfl, rfl⟩ := hp_10
    refine xr_perm C 1 [0] [] [[(g, .inr (11, [.int x_7.2, .ref gw, .ref gB, .ref gK, .ref gU, .ref gS, .int gbe, .int gwo, .long gta, .null, .int glr, .int glc, .int gti, .int ggo, .ref gR, .int gch, .ref gD]))]] rfl (by decide +kernel) rfl ?_
    refine xr_st (st' := [.int x_7.1]) rfl ?_
    refine xr_if_ne (tgt := 44) (n := 24) C dd_X9_beat_0.2.2.2.2.2.2.2.2.2.2.2.1 rfl rfl (fun c_11 => ?_) (fun c_11 => ?_)
    · replace hR := yf_f c_11 hR
      refine xr_iconst (n := 45) (v := 0) C dd_X9_beat_1.2.2.2.2.2.2.1 rfl rfl ?_
      obtain rfl := Option.some.inj hR
      exact ret 0 ⟨rfl, rfl⟩ (Nat.le_of_ble_eq_true rfl) (Nat.le_of_ble_eq_true rfl) dd_X9_beat_1.2.2.2.2.2.2.2.1
    · replace hR := yf_t c_11 hR
      refine xr_aload_n (n := 25) (j := 0) C dd_X9_beat_0.2.2.2.2.2.2.2.2.2.2.2.2.1 rfl rfl ?_
      refine xr_aload_n (n := 26) (j := 0) C dd_X9_beat_0.2.2.2.2.2.2.2.2.2.2.2.2.2.1 rfl rfl ?_
      refine xr_get (n := 29) C 0 rfl rfl 9 (by decide) in_X9 u_1246 rfl (v := .null) rfl dd_X9_beat_0.2.2.2.2.2.2.2.2.2.2.2.2.2.2.1 rfl ?_
      refine xr_ifnonnullN (n := 32) C dd_X9_beat_0.2.2.2.2.2.2.2.2.2.2.2.2.2.2.2.1 rfl ?_
      refine xr_iconst (n := 33) (v := 1) C dd_X9_beat_1.1 rfl rfl ?_
      refine xr_goto (tgt := 37) C dd_X9_beat_1.2.1 rfl ?_
      refine xr_iconst (n := 38) (v := 2) C dd_X9_beat_1.2.2.2.1 rfl rfl ?_
      obtain ⟨x_12, hx_12, hR⟩ := yf_b hR
      refine xr_callV (n := 41) (As := [.int 1, .int 2]) (rest := []) C (kX9_refuse_i l D cy (g := g) (gth := x_7.2) (gw := gw) (gB := gB) (gK := gK) (gU := gU) (gS := gS) (gbe := gbe) (gwo := gwo) (gta := gta) (glr := glr) (glc := glc) (gti := gti) (ggo := ggo) (gR := gR) (gch := gch) (gD := gD) (i1 := 1) (i2 := 2) hx_12) mX9_refuse u_1301 u_1303 u_30 0 rfl rfl 1 [0] [] rfl (by decide +kernel) rfl rfl rfl rfl (Nat.le_of_ble_eq_true rfl) (Nat.le_of_ble_eq_true rfl) (Nat.le_of_ble_eq_true rfl) (Nat.le_of_ble_eq_true rfl) (Nat.le_of_ble_eq_true rfl) dd_X9_beat_1.2.2.2.2.1 rfl (fun v_13 u_14 hp_15 => ?_)
      obtain ⟨rfl, rfl⟩ := hp_15
      refine xr_perm C 1 [0] [] [[(g, .inr (11, [.int x_12.2, .ref gw, .ref gB, .ref gK, .ref gU, .ref gS, .int gbe, .int gwo, .long gta, .null, .int glr, .int glc, .int gti, .int ggo, .ref gR, .int gch, .ref gD]))]] rfl (by decide +kernel) rfl ?_
      refine xr_st (st' := [.int x_12.1]) rfl ?_
      refine xr_if_eq (tgt := 46) (n := 44) C dd_X9_beat_1.2.2.2.2.2.1 rfl rfl (fun c_16 => ?_) (fun c_16 => ?_)
      · replace hR := yf_t c_16 hR
        refine xr_iconst (n := 47) (v := 0) C dd_X9_beat_1.2.2.2.2.2.2.2.2.1 rfl rfl ?_
        refine xr_istore_n (n := 48) C [(2, .int 0), (0, .ref g), (1, .int i1)] dd_X9_beat_1.2.2.2.2.2.2.2.2.2.1 (by decide) rfl rfl ?_
        refine xr_lv (lv' := [(0, .ref g), (1, .int i1), (2, .int 0)]) [1, 2, 0] rfl ?_
        obtain ⟨b_17, hb_17, hR⟩ := yf_b hR
        have K_17 : X p l e (yR 6 200 1800) s m args below meth c D A H0 3 Q [[(g, .inr (11, [.int x_12.2, .ref gw, .ref gB, .ref gK, .ref gU, .ref gS, .int gbe, .int gwo, .long gta, .null, .int glr, .int glc, .int gti, .int ggo, .ref gR, .int gch, .ref gD]))]] 0 0 [(0, .ref g)] 70 [] := by
          refine xr_aload_n (n := 71) (j := 0) C dd_X9_beat_2.2.2.2.2.1 rfl rfl ?_
          obtain ⟨x_18, hx_18, hR⟩ := yf_b hR
          obtain rfl := Option.some.inj (show some ((0) : Int32) = some x_18 from hx_18)
          refine xr_callVp (n := 74) (As := []) (rest := []) C (kX9_rest_i l D cy (g := g) (gth := x_12.2) (gw := gw) (gB := gB) (gK := gK) (gU := gU) (gS := gS) (gbe := gbe) (gwo := gwo) (gta := gta) (glr := glr) (glc := glc) (gti := gti) (ggo := ggo) (gR := gR) (gch := gch) (gD := gD) hx_18) mX9_left_ u_1414 u_1416 u_35 0 rfl rfl 1 [0] [] rfl (by decide +kernel) rfl rfl rfl rfl (Nat.le_of_ble_eq_true rfl) (Nat.le_of_ble_eq_true rfl) (Nat.le_of_ble_eq_true rfl) (Nat.le_of_ble_eq_true rfl) (Nat.le_of_ble_eq_true rfl) dd_X9_beat_2.2.2.2.2.2.1 rfl (fun _ _ hp => hp.2) (fun v_19 hp_21 => ?_)
          obtain ⟨rfl, -⟩ := hp_21
          refine xr_st (st' := [.int 0]) rfl ?_
          obtain rfl := Option.some.inj hR
          exact ret 0 ⟨rfl, rfl⟩ (Nat.le_of_ble_eq_true rfl) (Nat.le_of_ble_eq_true rfl) dd_X9_beat_2.2.2.2.2.2.2.1
        refine y_loop (P := fun (s_17 : Unit) => X p l e (yR 6 200 1800) s m args below meth c D A H0 3 Q [[(g, .inr (11, [.int x_12.2, .ref gw, .ref gB, .ref gK, .ref gU, .ref gS, .int gbe, .int gwo, .long gta, .null, .int glr, .int glc, .int gti, .int ggo, .ref gR, .int gch, .ref gD]))]] 0 0 [(0, .ref g), (1, .int i1), (2, .int 0)] 48 []) ?_ _ () hb_17
        intro s_17 o_17 ho_17 hk_17 hx_17
        refine xr_iload_n (n := 49) (j := 2) C dd_X9_beat_1.2.2.2.2.2.2.2.2.2.2.1 rfl rfl ?_
        refine xr_iload_n (n := 50) (j := 1) C dd_X9_beat_1.2.2.2.2.2.2.2.2.2.2.2.1 rfl rfl ?_
        refine xr_icmp_ge (tgt := 70) (n := 53) C dd_X9_beat_1.2.2.2.2.2.2.2.2.2.2.2.2.1 rfl rfl (fun c_22 => ?_) (fun c_22 => ?_)
        · replace ho_17 := yf_t c_22 ho_17
          refine xr_lv (lv' := [(0, .ref g)]) [0] rfl ?_
          have e_23 := hx_17 _ (Option.some.inj ho_17).symm
          subst e_23
          exact K_17
        · replace ho_17 := yf_f c_22 ho_17
          refine xr_aload_n (n := 54) (j := 0) C dd_X9_beat_1.2.2.2.2.2.2.2.2.2.2.2.2.2.1 rfl rfl ?_
          refine xr_get (n := 57) C 0 rfl rfl 9 (by decide) in_X9 u_1246 rfl (v := .null) rfl dd_X9_beat_1.2.2.2.2.2.2.2.2.2.2.2.2.2.2.1 rfl ?_
          refine xr_ifnullN (tgt := 70) C dd_X9_beat_1.2.2.2.2.2.2.2.2.2.2.2.2.2.2.2.1 rfl ?_
          refine xr_lv (lv' := [(0, .ref g)]) [0] rfl ?_
          have e_24 := hx_17 _ (Option.some.inj ho_17).symm
          subst e_24
          exact K_17
      · replace hR := yf_f c_16 hR
        refine xr_iconst (n := 45) (v := 0) C dd_X9_beat_1.2.2.2.2.2.2.1 rfl rfl ?_
        obtain rfl := Option.some.inj hR
        exact ret 0 ⟨rfl, rfl⟩ (Nat.le_of_ble_eq_true rfl) (Nat.le_of_ble_eq_true rfl) dd_X9_beat_1.2.2.2.2.2.2.2.1
  refine xr_if_ne (tgt := 16) (n := 12) C dd_X9_beat_0.2.2.2.2.2.1 rfl rfl (fun c_25 => ?_) (fun c_25 => ?_)
  · replace hE_6 := yf_f c_25 hE_6
    refine xr_iconst (n := 17) (v := 0) C dd_X9_beat_0.2.2.2.2.2.2.2.2.1 rfl rfl ?_
    have e_26 := Option.some.inj hE_6
    subst e_26
    exact J_6
  · replace hE_6 := yf_t c_25 hE_6
    refine xr_iconst (n := 13) (v := 1) C dd_X9_beat_0.2.2.2.2.2.2.1 rfl rfl ?_
    refine xr_goto (tgt := 17) C dd_X9_beat_0.2.2.2.2.2.2.2.1 rfl ?_
    have e_27 := Option.some.inj hE_6
    subst e_27
    exact J_6
def fX9_beat_r (gbe : Int32) (gta : Int64) (glr : Int32) (glc : Int32) (gti : Int32) (ggo : Int32) (gnr : Int32) (gnk : Int32) (gnc : Int32) (gng : Int32) (gns : Int32) (gnan : Nat) (gnak : Nat) (gnaG : Nat → Nat → Int32) (gnbn : Nat) (gnbk : Nat) (gnbG : Nat → Nat → Int32) (gBG : Nat → Nat → Int32) (gUG : Nat → Nat → Int32) (gSG : Nat → Nat → Int32) (gDn : Nat) (gDk : Nat) (gDG : Nat → Nat → Int32) (i1 : Int32) : Option ((Int32 × Int32 × Int32 × Int64 × Int32 × Int32 × (Nat → Nat → Int32) × (Nat → Nat → Int32) × Nat × Nat × (Nat → Nat → Int32)) ⊕ (Int32 × Int32 × Int32 × Int64 × Int32 × Int32 × Int32 × (Nat → Nat → Int32) × (Nat → Nat → Int32) × Nat × Nat × (Nat → Nat → Int32))) := ((fX9_isIn i1 1 300).bind fun x_1 => ((((if x_1 = 0 then some 1 else some 0) : Option (Int32))).bind fun r_6 => ((fX9_start_r r_6 1).bind fun x_7 => (if x_7.1 = 0 then ((fX9_refuse_r x_7.2 0 2).bind fun x_12 => (if x_12.1 = 0 then ((wl (S := Int32 × Int32 × Int64 × Int32 × Int32 × (Nat → Nat → Int32) × (Nat → Nat → Int32) × Nat × (Nat → Nat → Int32) × Nat × Nat × Nat) (B := (Int32 × Int32 × Int64 × Int32 × Int32 × (Nat → Nat → Int32) × (Nat → Nat → Int32) × Nat × (Nat → Nat → Int32) × Nat × Nat × Nat) ⊕ ((Int32 × Int32 × Int32 × Int64 × Int32 × Int32 × (Nat → Nat → Int32) × (Nat → Nat → Int32) × Nat × Nat × (Nat → Nat → Int32)) ⊕ (Int32 × Int32 × Int32 × Int64 × Int32 × Int32 × Int32 × (Nat → Nat → Int32) × (Nat → Nat → Int32) × Nat × Nat × (Nat → Nat → Int32)))) (fun s_17 => (if s_17.2.2.2.2.2.2.2.2.2.2.1 ≤ 200 ∧ s_17.2.2.2.2.2.2.2.2.2.2.2 ≤ 1800 then (if i1 ≤ s_17.1 then some (.inr (.inl (s_17.1, s_17.2.1, s_17.2.2.1, s_17.2.2.2.1, s_17.2.2.2.2.1, s_17.2.2.2.2.2.1, s_17.2.2.2.2.2.2.1, s_17.2.2.2.2.2.2.2.1, s_17.2.2.2.2.2.2.2.2.1, s_17.2.2.2.2.2.2.2.2.2.1, s_17.2.2.2.2.2.2.2.2.2.2.1, s_17.2.2.2.2.2.2.2.2.2.2.2))) else ((fX9_one_ s_17.2.1 s_17.2.2.1 glr glc s_17.2.2.2.1 s_17.2.2.2.2.1 gnr gnk gnc gng gns gnan gnak gnaG gnbn gnbk gnbG gBG s_17.2.2.2.2.2.1 s_17.2.2.2.2.2.2.1 s_17.2.2.2.2.2.2.2.1 s_17.2.2.2.2.2.2.2.2.2.1 s_17.2.2.2.2.2.2.2.2.1).bind fun x_26 => (if s_17.2.2.2.2.2.2.2.2.2.2.1 + (if s_17.2.2.2.1 = 0 then 10 else 0) ≤ 200 ∧ s_17.2.2.2.2.2.2.2.2.2.2.2 + (if s_17.2.2.2.1 = 0 then 90 else 0) ≤ 1800 then ybr x_26 (fun w_35 => some (.inl (s_17.1 + 1, w_35.1, w_35.2.1, w_35.2.2.1, w_35.2.2.2.1, w_35.2.2.2.2.1, w_35.2.2.2.2.2.1, w_35.2.2.2.2.2.2.1, w_35.2.2.2.2.2.2.2.2, w_35.2.2.2.2.2.2.2.1, s_17.2.2.2.2.2.2.2.2.2.2.1 + (if s_17.2.2.2.1 = 0 then 10 else 0), s_17.2.2.2.2.2.2.2.2.2.2.2 + (if s_17.2.2.2.1 = 0 then 90 else 0)))) (fun w_35 => (if i1 ≤ (s_17.1 + 1) then ((fX9_rest_i).bind fun x_37 => some (.inr (.inr (.inr (0, x_12.2, w_35.1, w_35.2.1, w_35.2.2.1, w_35.2.2.2.1, w_35.2.2.2.2.1, w_35.2.2.2.2.2.1, w_35.2.2.2.2.2.2.1, w_35.2.2.2.2.2.2.2.1, w_35.2.2.2.2.2.2.2.2.1, w_35.2.2.2.2.2.2.2.2.2))))) else ((fX9_rest_i).bind fun x_42 => some (.inr (.inr (.inr (0, x_12.2, w_35.1, w_35.2.1, w_35.2.2.1, w_35.2.2.2.1, w_35.2.2.2.2.1, w_35.2.2.2.2.2.1, w_35.2.2.2.2.2.2.1, w_35.2.2.2.2.2.2.2.1, w_35.2.2.2.2.2.2.2.2.1, w_35.2.2.2.2.2.2.2.2.2))))))) else none))) else none)) yFuel (0, gbe, gta, gti, ggo, gUG, gSG, gDn, gDG, gDk, 0, 0)).bind fun b_17 => ybr b_17 (fun z_17 => (if z_17.2.2.2.2.2.2.2.2.2.2.1 ≤ 200 ∧ z_17.2.2.2.2.2.2.2.2.2.2.2 ≤ 1800 then ((fX9_rest_r glr glc z_17.2.2.2.1 z_17.2.2.2.2.1 gnr gnk gnc gng gns gnan gnak gnaG gnbn gnbk gnbG).bind fun x_19 => some (.inl (x_19, x_12.2, z_17.2.1, z_17.2.2.1, z_17.2.2.2.1, z_17.2.2.2.2.1, z_17.2.2.2.2.2.1, z_17.2.2.2.2.2.2.1, z_17.2.2.2.2.2.2.2.1, z_17.2.2.2.2.2.2.2.2.2.1, z_17.2.2.2.2.2.2.2.2.1))) else none)) (fun r => some r)) else some (.inl (0, x_12.2, gbe, gta, gti, ggo, gUG, gSG, gDn, gDk, gDG)))) else some (.inl (0, x_7.2, gbe, gta, gti, ggo, gUG, gSG, gDn, gDk, gDG))))))
set_option maxHeartbeats 4000000 in
set_option maxRecDepth 100000 in
theorem kX9_beat_r (l : Launch) (D : va_G) (cy : Nat → ClassId) (g : Nat) (gth : Int32) (gw : Nat) (gB : Nat) (gK : Nat) (gU : Nat) (gS : Nat) (gbe : Int32) (gwo : Int32) (gta : Int64) (gn : Nat) (glr : Int32) (glc : Int32) (gti : Int32) (ggo : Int32) (gR : Nat) (gch : Int32) (gD : Nat) (gnr : Int32) (gnk : Int32) (gnc : Int32) (gng : Int32) (gns : Int32) (gna : Nat) (gnb : Nat) (gnad : Nat → Nat) (gnan : Nat) (gnak : Nat) (gnaG : Nat → Nat → Int32) (gnbd : Nat → Nat) (gnbn : Nat) (gnbk : Nat) (gnbG : Nat → Nat → Int32) (gBd : Nat → Nat) (gBG : Nat → Nat → Int32) (gUd : Nat → Nat) (gUG : Nat → Nat → Int32) (gSd : Nat → Nat) (gSG : Nat → Nat → Int32) (gDd : Nat → Nat) (gDn : Nat) (gDk : Nat) (gDG : Nat → Nat → Int32) (i1 : Int32) {res : (Int32 × Int32 × Int32 × Int64 × Int32 × Int32 × (Nat → Nat → Int32) × (Nat → Nat → Int32) × Nat × Nat × (Nat → Nat → Int32)) ⊕ (Int32 × Int32 × Int32 × Int64 × Int32 × Int32 × Int32 × (Nat → Nat → Int32) × (Nat → Nat → Int32) × Nat × Nat × (Nat → Nat → Int32))} (hR : fX9_beat_r gbe gta glr glc gti ggo gnr gnk gnc gng gns gnan gnak gnaG gnbn gnbk gnbG gBG gUG gSG gDn gDk gDG i1 = some res) : YM l D cy yX9_beat hX9_beat 6 200 1800 [.ref g, .int i1] [[(g, .inr (11, [.int gth, .ref gw, .ref gB, .ref gK, .ref gU, .ref gS, .int gbe, .int gwo, .long gta, .ref gn, .int glr, .int glc, .int gti, .int ggo, .ref gR, .int gch, .ref gD]))], [(gn, .inr (10, [.int gnr, .int gnk, .int gnc, .int gng, .int gns, .ref gna, .ref gnb]))], [(gna, .inl (cy 3, gnan, .inr (.inr (.inr (.inr (yad gnad))))))], xg_rows gnad gnan (cy 1) gnak gnaG, [(gnb, .inl (cy 3, gnbn, .inr (.inr (.inr (.inr (yad gnbd))))))], xg_rows gnbd gnbn (cy 1) gnbk gnbG, [(gB, .inl (cy 4, 5, .inr (.inr (.inr (.inr (yad gBd))))))], xg_rows gBd 5 (cy 2) 5 gBG, [(gU, .inl (cy 3, 5, .inr (.inr (.inr (.inr (yad gUd))))))], xg_rows gUd 5 (cy 1) 5 gUG, [(gS, .inl (cy 3, 5, .inr (.inr (.inr (.inr (yad gSd))))))], xg_rows gSd 5 (cy 1) 5 gSG, [(gD, .inl (cy 3, gDn, .inr (.inr (.inr (.inr (yad gDd))))))], xg_rows gDd gDn (cy 1) gDk gDG] (fun v u => (∃ r, res = .inl r ∧ ∃ gD : Nat, ∃ gDd : Nat → Nat, v = some (.int r.1) ∧ u = [[(g, .inr (11, [.int r.2.1, .ref gw, .ref gB, .ref gK, .ref gU, .ref gS, .int r.2.2.1, .int gwo, .long r.2.2.2.1, .ref gn, .int glr, .int glc, .int r.2.2.2.2.1, .int r.2.2.2.2.2.1, .ref gR, .int gch, .ref gD]))], [(gn, .inr (10, [.int gnr, .int gnk, .int gnc, .int gng, .int gns, .ref gna, .ref gnb]))], [(gna, .inl (cy 3, gnan, .inr (.inr (.inr (.inr (yad gnad))))))], xg_rows gnad gnan (cy 1) gnak gnaG, [(gnb, .inl (cy 3, gnbn, .inr (.inr (.inr (.inr (yad gnbd))))))], xg_rows gnbd gnbn (cy 1) gnbk gnbG, [(gB, .inl (cy 4, 5, .inr (.inr (.inr (.inr (yad gBd))))))], xg_rows gBd 5 (cy 2) 5 gBG, [(gU, .inl (cy 3, 5, .inr (.inr (.inr (.inr (yad gUd))))))], xg_rows gUd 5 (cy 1) 5 r.2.2.2.2.2.2.1, [(gS, .inl (cy 3, 5, .inr (.inr (.inr (.inr (yad gSd))))))], xg_rows gSd 5 (cy 1) 5 r.2.2.2.2.2.2.2.1, [(gD, .inl (cy 3, r.2.2.2.2.2.2.2.2.1, .inr (.inr (.inr (.inr (yad gDd))))))], xg_rows gDd r.2.2.2.2.2.2.2.2.1 (cy 1) r.2.2.2.2.2.2.2.2.2.1 r.2.2.2.2.2.2.2.2.2.2]) ∨ (∃ r, res = .inr r ∧ ∃ gD : Nat, ∃ gDd : Nat → Nat, v = some (.int r.1) ∧ u = [[(g, .inr (11, [.int r.2.1, .ref gw, .ref gB, .ref gK, .ref gU, .ref gS, .int r.2.2.1, .int gwo, .long r.2.2.2.1, .null, .int glr, .int glc, .int r.2.2.2.2.1, .int r.2.2.2.2.2.1, .ref gD, .int r.2.2.2.2.2.2.1, .ref gD]))], [(gB, .inl (cy 4, 5, .inr (.inr (.inr (.inr (yad gBd))))))], xg_rows gBd 5 (cy 2) 5 gBG, [(gU, .inl (cy 3, 5, .inr (.inr (.inr (.inr (yad gUd))))))], xg_rows gUd 5 (cy 1) 5 r.2.2.2.2.2.2.2.1, [(gS, .inl (cy 3, 5, .inr (.inr (.inr (.inr (yad gSd))))))], xg_rows gSd 5 (cy 1) 5 r.2.2.2.2.2.2.2.2.1, [(gD, .inl (cy 3, r.2.2.2.2.2.2.2.2.2.1, .inr (.inr (.inr (.inr (yad gDd))))))], xg_rows gDd r.2.2.2.2.2.2.2.2.2.1 (cy 1) r.2.2.2.2.2.2.2.2.2.2.1 r.2.2.2.2.2.2.2.2.2.2.2])) := by
  unfold fX9_beat_r at hR
  refine YM.ofI (cc := cX9_beat) (maxL := 3) (ret := (some .int)) (by decide +kernel) rfl (Nat.le_of_ble_eq_true rfl) [(0, .ref g), (1, .int i1)] rfl rfl (fun p e s m args below meth c A H0 Q C hnm ret => ?_)
  refine xr_aload_n (n := 1) (j := 0) C dd_X9_beat_0.1 rfl rfl ?_
  refine xr_iload_n (n := 2) (j := 1) C dd_X9_beat_0.2.1 rfl rfl ?_
  refine xr_iconst (n := 3) (v := 1) C dd_X9_beat_0.2.2.1 rfl rfl ?_
  refine xr_sipush (n := 6) (v := 300) C dd_X9_beat_0.2.2.2.1 rfl rfl ?_
  obtain ⟨x_1, hx_1, hR⟩ := yf_b hR
  refine xr_callSp (n := 9) (As := [.int i1, .int 1, .int 300]) (rest := [.ref g]) C (kX9_isIn l D cy (i1 := i1) (i2 := 1) (i3 := 300) hx_1) mX9_isIn u_1294 u_1295 14 [] [0, 1, 2, 3, 4, 5, 6, 7, 8, 9, 10, 11, 12, 13] rfl (by decide +kernel) rfl rfl rfl rfl (Nat.le_of_ble_eq_true rfl) (Nat.le_of_ble_eq_true rfl) (Nat.le_of_ble_eq_true rfl) (Nat.le_of_ble_eq_true rfl) (Nat.le_of_ble_eq_true rfl) dd_X9_beat_0.2.2.2.2.1 rfl (fun _ _ hp => hp.2) (fun v_2 hp_4 => ?_)
  obtain ⟨rfl, -⟩ := hp_4
  refine xr_st (st' := [.int x_1, .ref g]) rfl ?_
  obtain ⟨r_6, hE_6, hR⟩ := yf_b hR
  have J_6 : X p l e (yR 6 200 1800) s m args below meth c D A H0 3 Q [[(g, .inr (11, [.int gth, .ref gw, .ref gB, .ref gK, .ref gU, .ref gS, .int gbe, .int gwo, .long gta, .ref gn, .int glr, .int glc, .int gti, .int ggo, .ref gR, .int gch, .ref gD]))], [(gn, .inr (10, [.int gnr, .int gnk, .int gnc, .int gng, .int gns, .ref gna, .ref gnb]))], [(gna, .inl (cy 3, gnan, .inr (.inr (.inr (.inr (yad gnad))))))], xg_rows gnad gnan (cy 1) gnak gnaG, [(gnb, .inl (cy 3, gnbn, .inr (.inr (.inr (.inr (yad gnbd))))))], xg_rows gnbd gnbn (cy 1) gnbk gnbG, [(gB, .inl (cy 4, 5, .inr (.inr (.inr (.inr (yad gBd))))))], xg_rows gBd 5 (cy 2) 5 gBG, [(gU, .inl (cy 3, 5, .inr (.inr (.inr (.inr (yad gUd))))))], xg_rows gUd 5 (cy 1) 5 gUG, [(gS, .inl (cy 3, 5, .inr (.inr (.inr (.inr (yad gSd))))))], xg_rows gSd 5 (cy 1) 5 gSG, [(gD, .inl (cy 3, gDn, .inr (.inr (.inr (.inr (yad gDd))))))], xg_rows gDd gDn (cy 1) gDk gDG] 0 0 [(0, .ref g), (1, .int i1)] 17 [.int r_6, .ref g] := by
    refine xr_iconst (n := 18) (v := 1) C dd_X9_beat_0.2.2.2.2.2.2.2.2.2.1 rfl rfl ?_
    obtain ⟨x_7, hx_7, hR⟩ := yf_b hR
    refine xr_callV (n := 21) (As := [.int r_6, .int 1]) (rest := []) C (kX9_start_r l D cy (g := g) (gth := gth) (gw := gw) (gB := gB) (gK := gK) (gU := gU) (gS := gS) (gbe := gbe) (gwo := gwo) (gta := gta) (gn := gn) (glr := glr) (glc := glc) (gti := gti) (ggo := ggo) (gR := gR) (gch := gch) (gD := gD) (i1 := r_6) (i2 := 1) hx_7) mX9_start u_1297 u_1299 u_29 0 rfl rfl 14 [0] [1, 2, 3, 4, 5, 6, 7, 8, 9, 10, 11, 12, 13] rfl (by decide +kernel) rfl rfl rfl rfl (Nat.le_of_ble_eq_true rfl) (Nat.le_of_ble_eq_true rfl) (Nat.le_of_ble_eq_true rfl) (Nat.le_of_ble_eq_true rfl) (Nat.le_of_ble_eq_true rfl) dd_X9_beat_0.2.2.2.2.2.2.2.2.2.2.1 rfl (fun v_8 u_9 hp_10 => ?_)
    obtain ⟨rfl, rfl⟩ := hp_10
    refine xr_perm C 14 [0, 1, 2, 3, 4, 5, 6, 7, 8, 9, 10, 11, 12, 13] [] [[(g, .inr (11, [.int x_7.2, .ref gw, .ref gB, .ref gK, .ref gU, .ref gS, .int gbe, .int gwo, .long gta, .ref gn, .int glr, .int glc, .int gti, .int ggo, .ref gR, .int gch, .ref gD]))], [(gn, .inr (10, [.int gnr, .int gnk, .int gnc, .int gng, .int gns, .ref gna, .ref gnb]))], [(gna, .inl (cy 3, gnan, .inr (.inr (.inr (.inr (yad gnad))))))], xg_rows gnad gnan (cy 1) gnak gnaG, [(gnb, .inl (cy 3, gnbn, .inr (.inr (.inr (.inr (yad gnbd))))))], xg_rows gnbd gnbn (cy 1) gnbk gnbG, [(gB, .inl (cy 4, 5, .inr (.inr (.inr (.inr (yad gBd))))))], xg_rows gBd 5 (cy 2) 5 gBG, [(gU, .inl (cy 3, 5, .inr (.inr (.inr (.inr (yad gUd))))))], xg_rows gUd 5 (cy 1) 5 gUG, [(gS, .inl (cy 3, 5, .inr (.inr (.inr (.inr (yad gSd))))))], xg_rows gSd 5 (cy 1) 5 gSG, [(gD, .inl (cy 3, gDn, .inr (.inr (.inr (.inr (yad gDd))))))], xg_rows gDd gDn (cy 1) gDk gDG] rfl (by decide +kernel) rfl ?_
    refine xr_st (st' := [.int x_7.1]) rfl ?_
    refine xr_if_ne (tgt := 44) (n := 24) C dd_X9_beat_0.2.2.2.2.2.2.2.2.2.2.2.1 rfl rfl (fun c_11 => ?_) (fun c_11 => ?_)
    · replace hR := yf_f c_11 hR
      refine xr_iconst (n := 45) (v := 0) C dd_X9_beat_1.2.2.2.2.2.2.1 rfl rfl ?_
      obtain rfl := Option.some.inj hR
      exact ret 0 (Or.inl ⟨_, rfl, gD, gDd, rfl, rfl⟩) (Nat.le_of_ble_eq_true rfl) (Nat.le_of_ble_eq_true rfl) dd_X9_beat_1.2.2.2.2.2.2.2.1
    · replace hR := yf_t c_11 hR
      refine xr_aload_n (n := 25) (j := 0) C dd_X9_beat_0.2.2.2.2.2.2.2.2.2.2.2.2.1 rfl rfl ?_
      refine xr_aload_n (n := 26) (j := 0) C dd_X9_beat_0.2.2.2.2.2.2.2.2.2.2.2.2.2.1 rfl rfl ?_
      refine xr_get (n := 29) C 0 rfl rfl 9 (by decide) in_X9 u_1246 rfl (v := .ref gn) rfl dd_X9_beat_0.2.2.2.2.2.2.2.2.2.2.2.2.2.2.1 rfl ?_
      refine xr_ifnonnull (tgt := 36) C dd_X9_beat_0.2.2.2.2.2.2.2.2.2.2.2.2.2.2.2.1 rfl ?_
      refine xr_iconst (n := 37) (v := 0) C dd_X9_beat_1.2.2.1 rfl rfl ?_
      refine xr_iconst (n := 38) (v := 2) C dd_X9_beat_1.2.2.2.1 rfl rfl ?_
      obtain ⟨x_12, hx_12, hR⟩ := yf_b hR
      refine xr_callV (n := 41) (As := [.int 0, .int 2]) (rest := []) C (kX9_refuse_r l D cy (g := g) (gth := x_7.2) (gw := gw) (gB := gB) (gK := gK) (gU := gU) (gS := gS) (gbe := gbe) (gwo := gwo) (gta := gta) (gn := gn) (glr := glr) (glc := glc) (gti := gti) (ggo := ggo) (gR := gR) (gch := gch) (gD := gD) (i1 := 0) (i2 := 2) hx_12) mX9_refuse u_1301 u_1303 u_30 0 rfl rfl 14 [0] [1, 2, 3, 4, 5, 6, 7, 8, 9, 10, 11, 12, 13] rfl (by decide +kernel) rfl rfl rfl rfl (Nat.le_of_ble_eq_true rfl) (Nat.le_of_ble_eq_true rfl) (Nat.le_of_ble_eq_true rfl) (Nat.le_of_ble_eq_true rfl) (Nat.le_of_ble_eq_true rfl) dd_X9_beat_1.2.2.2.2.1 rfl (fun v_13 u_14 hp_15 => ?_)
      obtain ⟨rfl, rfl⟩ := hp_15
      refine xr_perm C 14 [0, 1, 2, 3, 4, 5, 6, 7, 8, 9, 10, 11, 12, 13] [] [[(g, .inr (11, [.int x_12.2, .ref gw, .ref gB, .ref gK, .ref gU, .ref gS, .int gbe, .int gwo, .long gta, .ref gn, .int glr, .int glc, .int gti, .int ggo, .ref gR, .int gch, .ref gD]))], [(gn, .inr (10, [.int gnr, .int gnk, .int gnc, .int gng, .int gns, .ref gna, .ref gnb]))], [(gna, .inl (cy 3, gnan, .inr (.inr (.inr (.inr (yad gnad))))))], xg_rows gnad gnan (cy 1) gnak gnaG, [(gnb, .inl (cy 3, gnbn, .inr (.inr (.inr (.inr (yad gnbd))))))], xg_rows gnbd gnbn (cy 1) gnbk gnbG, [(gB, .inl (cy 4, 5, .inr (.inr (.inr (.inr (yad gBd))))))], xg_rows gBd 5 (cy 2) 5 gBG, [(gU, .inl (cy 3, 5, .inr (.inr (.inr (.inr (yad gUd))))))], xg_rows gUd 5 (cy 1) 5 gUG, [(gS, .inl (cy 3, 5, .inr (.inr (.inr (.inr (yad gSd))))))], xg_rows gSd 5 (cy 1) 5 gSG, [(gD, .inl (cy 3, gDn, .inr (.inr (.inr (.inr (yad gDd))))))], xg_rows gDd gDn (cy 1) gDk gDG] rfl (by decide +kernel) rfl ?_
      refine xr_st (st' := [.int x_12.1]) rfl ?_
      refine xr_if_eq (tgt := 46) (n := 44) C dd_X9_beat_1.2.2.2.2.2.1 rfl rfl (fun c_16 => ?_) (fun c_16 => ?_)
      · replace hR := yf_t c_16 hR
        refine xr_iconst (n := 47) (v := 0) C dd_X9_beat_1.2.2.2.2.2.2.2.2.1 rfl rfl ?_
        refine xr_istore_n (n := 48) C [(2, .int 0), (0, .ref g), (1, .int i1)] dd_X9_beat_1.2.2.2.2.2.2.2.2.2.1 (by decide) rfl rfl ?_
        refine xr_lv (lv' := [(0, .ref g), (1, .int i1), (2, .int 0)]) [1, 2, 0] rfl ?_
        obtain ⟨b_17, hb_17, hR⟩ := yf_b hR
        have K_17 : ∀ z_17, b_17 = .inl z_17 → ∀ a0_17 : Nat, ∀ a1_17 : Nat → Nat, X p l e (yR 6 200 1800) s m args below meth c D A H0 3 Q [[(g, .inr (11, [.int x_12.2, .ref gw, .ref gB, .ref gK, .ref gU, .ref gS, .int z_17.2.1, .int gwo, .long z_17.2.2.1, .ref gn, .int glr, .int glc, .int z_17.2.2.2.1, .int z_17.2.2.2.2.1, .ref gR, .int gch, .ref a0_17]))], [(gn, .inr (10, [.int gnr, .int gnk, .int gnc, .int gng, .int gns, .ref gna, .ref gnb]))], [(gna, .inl (cy 3, gnan, .inr (.inr (.inr (.inr (yad gnad))))))], xg_rows gnad gnan (cy 1) gnak gnaG, [(gnb, .inl (cy 3, gnbn, .inr (.inr (.inr (.inr (yad gnbd))))))], xg_rows gnbd gnbn (cy 1) gnbk gnbG, [(gB, .inl (cy 4, 5, .inr (.inr (.inr (.inr (yad gBd))))))], xg_rows gBd 5 (cy 2) 5 gBG, [(gU, .inl (cy 3, 5, .inr (.inr (.inr (.inr (yad gUd))))))], xg_rows gUd 5 (cy 1) 5 z_17.2.2.2.2.2.1, [(gS, .inl (cy 3, 5, .inr (.inr (.inr (.inr (yad gSd))))))], xg_rows gSd 5 (cy 1) 5 z_17.2.2.2.2.2.2.1, [(a0_17, .inl (cy 3, z_17.2.2.2.2.2.2.2.1, .inr (.inr (.inr (.inr (yad a1_17))))))], xg_rows a1_17 z_17.2.2.2.2.2.2.2.1 (cy 1) z_17.2.2.2.2.2.2.2.2.2.1 z_17.2.2.2.2.2.2.2.2.1] z_17.2.2.2.2.2.2.2.2.2.2.1 z_17.2.2.2.2.2.2.2.2.2.2.2 [(0, .ref g)] 70 [] := by
          intro z_17 e_17; subst e_17; replace hR := ybr_l hR
          intro a0_17 a1_17
          obtain ⟨g_18, hR⟩ := yf_g hR
          refine xr_aload_n (n := 71) (j := 0) C dd_X9_beat_2.2.2.2.2.1 rfl rfl ?_
          obtain ⟨x_19, hx_19, hR⟩ := yf_b hR
          refine xr_callVp (n := 74) (As := []) (rest := []) C (kX9_rest_r l D cy (g := g) (gth := x_12.2) (gw := gw) (gB := gB) (gK := gK) (gU := gU) (gS := gS) (gbe := z_17.2.1) (gwo := gwo) (gta := z_17.2.2.1) (gn := gn) (glr := glr) (glc := glc) (gti := z_17.2.2.2.1) (ggo := z_17.2.2.2.2.1) (gR := gR) (gch := gch) (gD := a0_17) (gnr := gnr) (gnk := gnk) (gnc := gnc) (gng := gng) (gns := gns) (gna := gna) (gnb := gnb) (gnad := gnad) (gnan := gnan) (gnak := gnak) (gnaG := gnaG) (gnbd := gnbd) (gnbn := gnbn) (gnbk := gnbk) (gnbG := gnbG) hx_19) mX9_left_ u_1414 u_1416 u_35 0 rfl rfl 14 [0, 1, 2, 3, 4, 5] [6, 7, 8, 9, 10, 11, 12, 13] rfl (by decide +kernel) rfl rfl rfl rfl (Nat.le_of_ble_eq_true rfl) (Nat.le_of_ble_eq_true rfl) (Nat.le_of_ble_eq_true rfl) g_18.1 g_18.2 dd_X9_beat_2.2.2.2.2.2.1 rfl (fun _ _ hp => hp.2) (fun v_20 hp_22 => ?_)
          obtain ⟨rfl, -⟩ := hp_22
          refine xr_st (st' := [.int x_19]) rfl ?_
          obtain rfl := Option.some.inj hR
          exact ret x_19 (Or.inl ⟨_, rfl, a0_17, a1_17, rfl, rfl⟩) g_18.1 g_18.2 dd_X9_beat_2.2.2.2.2.2.2.1
        refine y_loop (P := fun (s_17 : Int32 × Int32 × Int64 × Int32 × Int32 × (Nat → Nat → Int32) × (Nat → Nat → Int32) × Nat × (Nat → Nat → Int32) × Nat × Nat × Nat) => ∀ a0_17 : Nat, ∀ a1_17 : Nat → Nat, X p l e (yR 6 200 1800) s m args below meth c D A H0 3 Q [[(g, .inr (11, [.int x_12.2, .ref gw, .ref gB, .ref gK, .ref gU, .ref gS, .int s_17.2.1, .int gwo, .long s_17.2.2.1, .ref gn, .int glr, .int glc, .int s_17.2.2.2.1, .int s_17.2.2.2.2.1, .ref gR, .int gch, .ref a0_17]))], [(gn, .inr (10, [.int gnr, .int gnk, .int gnc, .int gng, .int gns, .ref gna, .ref gnb]))], [(gna, .inl (cy 3, gnan, .inr (.inr (.inr (.inr (yad gnad))))))], xg_rows gnad gnan (cy 1) gnak gnaG, [(gnb, .inl (cy 3, gnbn, .inr (.inr (.inr (.inr (yad gnbd))))))], xg_rows gnbd gnbn (cy 1) gnbk gnbG, [(gB, .inl (cy 4, 5, .inr (.inr (.inr (.inr (yad gBd))))))], xg_rows gBd 5 (cy 2) 5 gBG, [(gU, .inl (cy 3, 5, .inr (.inr (.inr (.inr (yad gUd))))))], xg_rows gUd 5 (cy 1) 5 s_17.2.2.2.2.2.1, [(gS, .inl (cy 3, 5, .inr (.inr (.inr (.inr (yad gSd))))))], xg_rows gSd 5 (cy 1) 5 s_17.2.2.2.2.2.2.1, [(a0_17, .inl (cy 3, s_17.2.2.2.2.2.2.2.1, .inr (.inr (.inr (.inr (yad a1_17))))))], xg_rows a1_17 s_17.2.2.2.2.2.2.2.1 (cy 1) s_17.2.2.2.2.2.2.2.2.2.1 s_17.2.2.2.2.2.2.2.2.1] s_17.2.2.2.2.2.2.2.2.2.2.1 s_17.2.2.2.2.2.2.2.2.2.2.2 [(0, .ref g), (1, .int i1), (2, .int s_17.1)] 48 []) ?_ _ (0, gbe, gta, gti, ggo, gUG, gSG, gDn, gDG, gDk, 0, 0) hb_17 gD gDd
        intro s_17 o_17 ho_17 hk_17 hx_17 a0_17 a1_17
        obtain ⟨g_23, ho_17⟩ := yf_g ho_17
        refine xr_iload_n (n := 49) (j := 2) C dd_X9_beat_1.2.2.2.2.2.2.2.2.2.2.1 rfl rfl ?_
        refine xr_iload_n (n := 50) (j := 1) C dd_X9_beat_1.2.2.2.2.2.2.2.2.2.2.2.1 rfl rfl ?_
        refine xr_icmp_ge (tgt := 70) (n := 53) C dd_X9_beat_1.2.2.2.2.2.2.2.2.2.2.2.2.1 rfl rfl (fun c_24 => ?_) (fun c_24 => ?_)
        · replace ho_17 := yf_t c_24 ho_17
          refine xr_lv (lv' := [(0, .ref g)]) [0] rfl ?_
          have e_25 := hx_17 _ (Option.some.inj ho_17).symm
          exact K_17 (s_17.1, s_17.2.1, s_17.2.2.1, s_17.2.2.2.1, s_17.2.2.2.2.1, s_17.2.2.2.2.2.1, s_17.2.2.2.2.2.2.1, s_17.2.2.2.2.2.2.2.1, s_17.2.2.2.2.2.2.2.2.1, s_17.2.2.2.2.2.2.2.2.2.1, s_17.2.2.2.2.2.2.2.2.2.2.1, s_17.2.2.2.2.2.2.2.2.2.2.2) e_25.symm a0_17 a1_17
        · replace ho_17 := yf_f c_24 ho_17
          refine xr_aload_n (n := 54) (j := 0) C dd_X9_beat_1.2.2.2.2.2.2.2.2.2.2.2.2.2.1 rfl rfl ?_
          refine xr_get (n := 57) C 0 rfl rfl 9 (by decide) in_X9 u_1246 rfl (v := .ref gn) rfl dd_X9_beat_1.2.2.2.2.2.2.2.2.2.2.2.2.2.2.1 rfl ?_
          refine xr_ifnull (n := 60) C dd_X9_beat_1.2.2.2.2.2.2.2.2.2.2.2.2.2.2.2.1 rfl ?_
          refine xr_aload_n (n := 61) (j := 0) C dd_X9_beat_2.1 rfl rfl ?_
          obtain ⟨x_26, hx_26, ho_17⟩ := yf_b ho_17
          obtain ⟨g_27, ho_17⟩ := yf_g ho_17
          refine xr_callV (n := 64) (As := []) (rest := []) C (kX9_one_ l D cy (g := g) (gth := x_12.2) (gw := gw) (gB := gB) (gK := gK) (gU := gU) (gS := gS) (gbe := s_17.2.1) (gwo := gwo) (gta := s_17.2.2.1) (gn := gn) (glr := glr) (glc := glc) (gti := s_17.2.2.2.1) (ggo := s_17.2.2.2.2.1) (gR := gR) (gch := gch) (gD := a0_17) (gnr := gnr) (gnk := gnk) (gnc := gnc) (gng := gng) (gns := gns) (gna := gna) (gnb := gnb) (gnad := gnad) (gnan := gnan) (gnak := gnak) (gnaG := gnaG) (gnbd := gnbd) (gnbn := gnbn) (gnbk := gnbk) (gnbG := gnbG) (gBd := gBd) (gBG := gBG) (gUd := gUd) (gUG := s_17.2.2.2.2.2.1) (gSd := gSd) (gSG := s_17.2.2.2.2.2.2.1) (gDd := a1_17) (gDn := s_17.2.2.2.2.2.2.2.1) (gDk := s_17.2.2.2.2.2.2.2.2.2.1) (gDG := s_17.2.2.2.2.2.2.2.2.1) hx_26) mX9_one_ u_1434 u_1436 u_39 0 rfl rfl 14 [0, 1, 2, 3, 4, 5, 6, 7, 8, 9, 10, 11, 12, 13] [] rfl (by decide +kernel) rfl rfl rfl rfl (Nat.le_of_ble_eq_true rfl) (Nat.le_of_ble_eq_true rfl) (Nat.le_of_ble_eq_true rfl) g_27.1 g_27.2 dd_X9_beat_2.2.1 rfl (fun v_28 u_29 hp_30 => ?_)
          rcases hp_30 with ⟨w_35, ew_35, q_31, q_32, rfl, rfl⟩ | ⟨w_35, ew_35, q_33, q_34, rfl, rfl⟩
          · subst ew_35
            replace ho_17 := ybr_l ho_17
            refine xr_perm C 14 [0, 1, 2, 3, 4, 5, 6, 7, 8, 9, 10, 11, 12, 13] [] [[(g, .inr (11, [.int x_12.2, .ref gw, .ref gB, .ref gK, .ref gU, .ref gS, .int w_35.1, .int gwo, .long w_35.2.1, .ref gn, .int glr, .int glc, .int w_35.2.2.1, .int w_35.2.2.2.1, .ref gR, .int gch, .ref q_31]))], [(gn, .inr (10, [.int gnr, .int gnk, .int gnc, .int gng, .int gns, .ref gna, .ref gnb]))], [(gna, .inl (cy 3, gnan, .inr (.inr (.inr (.inr (yad gnad))))))], xg_rows gnad gnan (cy 1) gnak gnaG, [(gnb, .inl (cy 3, gnbn, .inr (.inr (.inr (.inr (yad gnbd))))))], xg_rows gnbd gnbn (cy 1) gnbk gnbG, [(gB, .inl (cy 4, 5, .inr (.inr (.inr (.inr (yad gBd))))))], xg_rows gBd 5 (cy 2) 5 gBG, [(gU, .inl (cy 3, 5, .inr (.inr (.inr (.inr (yad gUd))))))], xg_rows gUd 5 (cy 1) 5 w_35.2.2.2.2.1, [(gS, .inl (cy 3, 5, .inr (.inr (.inr (.inr (yad gSd))))))], xg_rows gSd 5 (cy 1) 5 w_35.2.2.2.2.2.1, [(q_31, .inl (cy 3, w_35.2.2.2.2.2.2.1, .inr (.inr (.inr (.inr (yad q_32))))))], xg_rows q_32 w_35.2.2.2.2.2.2.1 (cy 1) w_35.2.2.2.2.2.2.2.1 w_35.2.2.2.2.2.2.2.2] rfl (by decide +kernel) rfl ?_
            refine xr_iinc (j := 2) (v := s_17.1 + 1) (n := 67) C [(2, .int (s_17.1 + 1)), (0, .ref g), (1, .int i1)] dd_X9_beat_2.2.2.1 rfl rfl (by decide) rfl rfl ?_
            refine xr_goto (tgt := 48) C dd_X9_beat_2.2.2.2.1 rfl ?_
            refine xr_lv (lv' := [(0, .ref g), (1, .int i1), (2, .int (s_17.1 + 1))]) [1, 2, 0] rfl ?_
            exact hk_17 (s_17.1 + 1, w_35.1, w_35.2.1, w_35.2.2.1, w_35.2.2.2.1, w_35.2.2.2.2.1, w_35.2.2.2.2.2.1, w_35.2.2.2.2.2.2.1, w_35.2.2.2.2.2.2.2.2, w_35.2.2.2.2.2.2.2.1, s_17.2.2.2.2.2.2.2.2.2.2.1 + (if s_17.2.2.2.1 = 0 then 10 else 0), s_17.2.2.2.2.2.2.2.2.2.2.2 + (if s_17.2.2.2.1 = 0 then 90 else 0)) (Option.some.inj ho_17).symm q_31 q_32
          · subst ew_35
            replace ho_17 := ybr_r ho_17
            refine xr_eq (bs' := [[(g, .inr (11, [.int x_12.2, .ref gw, .ref gB, .ref gK, .ref gU, .ref gS, .int w_35.1, .int gwo, .long w_35.2.1, .null, .int glr, .int glc, .int w_35.2.2.1, .int w_35.2.2.2.1, .ref q_33, .int w_35.2.2.2.2.1, .ref q_33]))], [(gB, .inl (cy 4, 5, .inr (.inr (.inr (.inr (yad gBd))))))], xg_rows gBd 5 (cy 2) 5 gBG, [(gU, .inl (cy 3, 5, .inr (.inr (.inr (.inr (yad gUd))))))], xg_rows gUd 5 (cy 1) 5 w_35.2.2.2.2.2.1, [(gS, .inl (cy 3, 5, .inr (.inr (.inr (.inr (yad gSd))))))], xg_rows gSd 5 (cy 1) 5 w_35.2.2.2.2.2.2.1, [(q_33, .inl (cy 3, w_35.2.2.2.2.2.2.2.1, .inr (.inr (.inr (.inr (yad q_34))))))], xg_rows q_34 w_35.2.2.2.2.2.2.2.1 (cy 1) w_35.2.2.2.2.2.2.2.2.1 w_35.2.2.2.2.2.2.2.2.2]) rfl ?_
            refine xr_iinc (j := 2) (v := s_17.1 + 1) (n := 67) C [(2, .int (s_17.1 + 1)), (0, .ref g), (1, .int i1)] dd_X9_beat_2.2.2.1 rfl rfl (by decide) rfl rfl ?_
            refine xr_goto (tgt := 48) C dd_X9_beat_2.2.2.2.1 rfl ?_
            refine xr_iload_n (n := 49) (j := 0) C dd_X9_beat_1.2.2.2.2.2.2.2.2.2.2.1 rfl rfl ?_
            refine xr_iload_n (n := 50) (j := 2) C dd_X9_beat_1.2.2.2.2.2.2.2.2.2.2.2.1 rfl rfl ?_
            refine xr_icmp_ge (tgt := 70) (n := 53) C dd_X9_beat_1.2.2.2.2.2.2.2.2.2.2.2.2.1 rfl rfl (fun c_36 => ?_) (fun c_36 => ?_)
            · replace ho_17 := yf_t c_36 ho_17
              refine xr_aload_n (n := 71) (j := 1) C dd_X9_beat_2.2.2.2.2.1 rfl rfl ?_
              obtain ⟨x_37, hx_37, ho_17⟩ := yf_b ho_17
              obtain rfl := Option.some.inj (show some ((0) : Int32) = some x_37 from hx_37)
              refine xr_callVp (n := 74) (As := []) (rest := []) C (kX9_rest_i l D cy (g := g) (gth := x_12.2) (gw := gw) (gB := gB) (gK := gK) (gU := gU) (gS := gS) (gbe := w_35.1) (gwo := gwo) (gta := w_35.2.1) (glr := glr) (glc := glc) (gti := w_35.2.2.1) (ggo := w_35.2.2.2.1) (gR := q_33) (gch := w_35.2.2.2.2.1) (gD := q_33) hx_37) mX9_left_ u_1414 u_1416 u_35 0 rfl rfl 9 [0] [1, 2, 3, 4, 5, 6, 7, 8] rfl (by decide +kernel) rfl rfl rfl rfl (Nat.le_of_ble_eq_true rfl) (Nat.le_of_ble_eq_true rfl) (Nat.le_of_ble_eq_true rfl) g_27.1 g_27.2 dd_X9_beat_2.2.2.2.2.2.1 rfl (fun _ _ hp => hp.2) (fun v_38 hp_40 => ?_)
              obtain ⟨rfl, -⟩ := hp_40
              refine xr_st (st' := [.int 0]) rfl ?_
              have e_41 := hx_17 _ (Option.some.inj ho_17).symm
              subst e_41
              replace hR := ybr_r hR
              obtain rfl := Option.some.inj hR
              exact ret 0 (Or.inr ⟨_, rfl, q_33, q_34, rfl, rfl⟩) g_27.1 g_27.2 dd_X9_beat_2.2.2.2.2.2.2.1
            · replace ho_17 := yf_f c_36 ho_17
              refine xr_aload_n (n := 54) (j := 1) C dd_X9_beat_1.2.2.2.2.2.2.2.2.2.2.2.2.2.1 rfl rfl ?_
              refine xr_get (n := 57) C 0 rfl rfl 9 (by decide) in_X9 u_1246 rfl (v := .null) rfl dd_X9_beat_1.2.2.2.2.2.2.2.2.2.2.2.2.2.2.1 rfl ?_
              refine xr_ifnullN (tgt := 70) C dd_X9_beat_1.2.2.2.2.2.2.2.2.2.2.2.2.2.2.2.1 rfl ?_
              refine xr_aload_n (n := 71) (j := 1) C dd_X9_beat_2.2.2.2.2.1 rfl rfl ?_
              obtain ⟨x_42, hx_42, ho_17⟩ := yf_b ho_17
              obtain rfl := Option.some.inj (show some ((0) : Int32) = some x_42 from hx_42)
              refine xr_callVp (n := 74) (As := []) (rest := []) C (kX9_rest_i l D cy (g := g) (gth := x_12.2) (gw := gw) (gB := gB) (gK := gK) (gU := gU) (gS := gS) (gbe := w_35.1) (gwo := gwo) (gta := w_35.2.1) (glr := glr) (glc := glc) (gti := w_35.2.2.1) (ggo := w_35.2.2.2.1) (gR := q_33) (gch := w_35.2.2.2.2.1) (gD := q_33) hx_42) mX9_left_ u_1414 u_1416 u_35 0 rfl rfl 9 [0] [1, 2, 3, 4, 5, 6, 7, 8] rfl (by decide +kernel) rfl rfl rfl rfl (Nat.le_of_ble_eq_true rfl) (Nat.le_of_ble_eq_true rfl) (Nat.le_of_ble_eq_true rfl) g_27.1 g_27.2 dd_X9_beat_2.2.2.2.2.2.1 rfl (fun _ _ hp => hp.2) (fun v_43 hp_45 => ?_)
              obtain ⟨rfl, -⟩ := hp_45
              refine xr_st (st' := [.int 0]) rfl ?_
              have e_46 := hx_17 _ (Option.some.inj ho_17).symm
              subst e_46
              replace hR := ybr_r hR
              obtain rfl := Option.some.inj hR
              exact ret 0 (Or.inr ⟨_, rfl, q_33, q_34, rfl, rfl⟩) g_27.1 g_27.2 dd_X9_beat_2.2.2.2.2.2.2.1
      · replace hR := yf_f c_16 hR
        refine xr_iconst (n := 45) (v := 0) C dd_X9_beat_1.2.2.2.2.2.2.1 rfl rfl ?_
        obtain rfl := Option.some.inj hR
        exact ret 0 (Or.inl ⟨_, rfl, gD, gDd, rfl, rfl⟩) (Nat.le_of_ble_eq_true rfl) (Nat.le_of_ble_eq_true rfl) dd_X9_beat_1.2.2.2.2.2.2.2.1
  refine xr_if_ne (tgt := 16) (n := 12) C dd_X9_beat_0.2.2.2.2.2.1 rfl rfl (fun c_47 => ?_) (fun c_47 => ?_)
  · replace hE_6 := yf_f c_47 hE_6
    refine xr_iconst (n := 17) (v := 0) C dd_X9_beat_0.2.2.2.2.2.2.2.2.1 rfl rfl ?_
    have e_48 := Option.some.inj hE_6
    subst e_48
    exact J_6
  · replace hE_6 := yf_t c_47 hE_6
    refine xr_iconst (n := 13) (v := 1) C dd_X9_beat_0.2.2.2.2.2.2.1 rfl rfl ?_
    refine xr_goto (tgt := 17) C dd_X9_beat_0.2.2.2.2.2.2.2.1 rfl ?_
    have e_49 := Option.some.inj hE_6
    subst e_49
    exact J_6
theorem dX9_bestTold_55 : decode cX9_bestTold 55 = .ok (.tableswitch 64 0 3 #[29, 50, 54, 58], 29) := by decide +kernel
theorem dd_X9_bestTold_0 : dk_R cX9_bestTold [(0, .aload_n 0, 1), (1, .invokevirtual 173, 3), (4, .astore_n 2, 1), (5, .aload_n 2, 1), (6, .arraylength, 1), (7, .ifCond .ne 5, 3), (10, .iconst (-1), 1), (11, .ireturn, 1), (12, .aload_n 2, 1), (13, .iconst 0, 1), (14, .iaload, 1), (15, .invokestatic 103, 3), (18, .istore_n 3, 1), (19, .aload_n 2, 1), (20, .iconst 1, 1), (21, .iaload, 1)] := dk_use _ _ (by decide +kernel)
theorem dd_X9_bestTold_1 : dk_R cX9_bestTold [(22, .invokestatic 103, 3), (25, .istore 4, 2), (27, .aload_n 0, 1), (28, .getfield 16, 3), (31, .invokevirtual 106, 3), (34, .iload_n 3, 1), (35, .invokestatic 110, 3), (38, .istore 5, 2), (40, .aload_n 0, 1), (41, .getfield 16, 3), (44, .invokevirtual 113, 3), (47, .iload 4, 2), (49, .invokestatic 110, 3), (52, .istore 6, 2), (54, .iload_n 1, 1), (84, .aload_n 0, 1)] := dk_use _ _ (by decide +kernel)
theorem dd_X9_bestTold_2 : dk_R cX9_bestTold [(85, .getfield 16, 3), (88, .aload_n 2, 1), (89, .iconst 0, 1), (90, .iaload, 1), (91, .aload_n 2, 1), (92, .iconst 1, 1), (93, .iaload, 1), (94, .aload_n 0, 1), (95, .getfield 16, 3), (98, .invokevirtual 120, 3), (101, .invokestatic 126, 3), (104, .ireturn, 1), (105, .aload_n 2, 1), (106, .iconst 0, 1), (107, .iaload, 1), (108, .ireturn, 1)] := dk_use _ _ (by decide +kernel)
theorem dd_X9_bestTold_3 : dk_R cX9_bestTold [(109, .aload_n 2, 1), (110, .iconst 1, 1), (111, .iaload, 1), (112, .ireturn, 1), (113, .iload 5, 2), (115, .iload 6, 2), (117, .imul, 1), (118, .ireturn, 1), (119, .aload_n 0, 1), (120, .getfield 16, 3), (123, .invokevirtual 120, 3), (126, .aload_n 0, 1), (127, .getfield 16, 3), (130, .invokevirtual 106, 3), (133, .iload 6, 2), (135, .imul, 1)] := dk_use _ _ (by decide +kernel)
theorem dd_X9_bestTold_4 : dk_R cX9_bestTold [(136, .aload_n 0, 1), (137, .getfield 16, 3), (140, .invokevirtual 113, 3), (143, .iload 5, 2), (145, .imul, 1), (146, .iadd, 1), (147, .imul, 1), (148, .ireturn, 1)] := dk_use _ _ (by decide +kernel)
def fX9_bestTold_i (gwr : Int32) (gwk : Int32) (gwc : Int32) (gwg : Int32) (gws : Int32) (gwan : Nat) (gwak : Nat) (gwaG : Nat → Nat → Int32) (gwbn : Nat) (gwbk : Nat) (gwbG : Nat → Nat → Int32) (gKG : Nat → Nat → Int32) (i1 : Int32) : Option (Int32) := ((fX9_bestLayout_i gwr gwk gwc gwg gws gwan gwak gwaG gwbn gwbk gwbG gKG).bind fun x_1 => (if (nI x_1.2) = 0 then some (-1) else (if ¬ ((0 : Int32) < 0 ∨ x_1.2 ≤ (0 : Int32).toNatClampNeg) then ((fJ6_bitCount_0f7a4 (x_1.1 (0 : Int32).toNatClampNeg)).bind fun x_8 => (if ¬ ((1 : Int32) < 0 ∨ x_1.2 ≤ (1 : Int32).toNatClampNeg) then ((fJ6_bitCount_0f7a4 (x_1.1 (1 : Int32).toNatClampNeg)).bind fun x_13 => ((fX8_rows gwr gws).bind fun x_17 => ((fX9_tiles x_17 x_8).bind fun x_21 => ((fX8_columns gwc gws).bind fun x_25 => ((fX9_tiles x_25 x_13).bind fun x_29 => (if i1 = 0 then (if ¬ ((0 : Int32) < 0 ∨ x_1.2 ≤ (0 : Int32).toNatClampNeg) then (if ¬ ((1 : Int32) < 0 ∨ x_1.2 ≤ (1 : Int32).toNatClampNeg) then ((fX8_steps gwk gwg gwan gwak gwaG gwbn gwbk gwbG).bind fun x_36 => ((fX9_beatsOf gwr gwc gws (x_1.1 (0 : Int32).toNatClampNeg) (x_1.1 (1 : Int32).toNatClampNeg) x_36).bind fun x_40 => some x_40)) else none) else none) else (if i1 = 1 then (if ¬ ((0 : Int32) < 0 ∨ x_1.2 ≤ (0 : Int32).toNatClampNeg) then some (x_1.1 (0 : Int32).toNatClampNeg) else none) else (if i1 = 2 then (if ¬ ((1 : Int32) < 0 ∨ x_1.2 ≤ (1 : Int32).toNatClampNeg) then some (x_1.1 (1 : Int32).toNatClampNeg) else none) else (if i1 = 3 then some (x_21 * x_29) else ((fX8_steps gwk gwg gwan gwak gwaG gwbn gwbk gwbG).bind fun x_49 => ((fX8_rows gwr gws).bind fun x_53 => ((fX8_columns gwc gws).bind fun x_57 => some (x_49 * ((x_53 * x_29) + (x_57 * x_21))))))))))))))) else none)) else none)))
abbrev hX9_bestTold : Cond := .code yX9_bestTold cX9_bestTold 7 (some .int)
theorem mX9_bestTold : yM yX9_bestTold hX9_bestTold 1 := ⟨u_1563, u_64, by decide +kernel, by decide +kernel, by decide +kernel⟩
set_option maxHeartbeats 4000000 in
set_option maxRecDepth 100000 in
theorem kX9_bestTold_i (l : Launch) (D : va_G) (cy : Nat → ClassId) (g : Nat) (gth : Int32) (gw : Nat) (gB : Nat) (gK : Nat) (gU : Nat) (gS : Nat) (gbe : Int32) (gwo : Int32) (gta : Int64) (glr : Int32) (glc : Int32) (gti : Int32) (ggo : Int32) (gR : Nat) (gch : Int32) (gD : Nat) (gwr : Int32) (gwk : Int32) (gwc : Int32) (gwg : Int32) (gws : Int32) (gwa : Nat) (gwb : Nat) (gwad : Nat → Nat) (gwan : Nat) (gwak : Nat) (gwaG : Nat → Nat → Int32) (gwbd : Nat → Nat) (gwbn : Nat) (gwbk : Nat) (gwbG : Nat → Nat → Int32) (gKd : Nat → Nat) (gKG : Nat → Nat → Int32) (i1 : Int32) {res : Int32} (hR : fX9_bestTold_i gwr gwk gwc gwg gws gwan gwak gwaG gwbn gwbk gwbG gKG i1 = some res) : YM l D cy yX9_bestTold hX9_bestTold 5 30 60 [.ref g, .int i1] [[(g, .inr (11, [.int gth, .ref gw, .ref gB, .ref gK, .ref gU, .ref gS, .int gbe, .int gwo, .long gta, .null, .int glr, .int glc, .int gti, .int ggo, .ref gR, .int gch, .ref gD]))], [(gw, .inr (10, [.int gwr, .int gwk, .int gwc, .int gwg, .int gws, .ref gwa, .ref gwb]))], [(gwa, .inl (cy 3, gwan, .inr (.inr (.inr (.inr (yad gwad))))))], xg_rows gwad gwan (cy 1) gwak gwaG, [(gwb, .inl (cy 3, gwbn, .inr (.inr (.inr (.inr (yad gwbd))))))], xg_rows gwbd gwbn (cy 1) gwbk gwbG, [(gK, .inl (cy 4, 5, .inr (.inr (.inr (.inr (yad gKd))))))], xg_rows gKd 5 (cy 2) 5 gKG] (fun v u => v = some (.int res) ∧ u = [[(g, .inr (11, [.int gth, .ref gw, .ref gB, .ref gK, .ref gU, .ref gS, .int gbe, .int gwo, .long gta, .null, .int glr, .int glc, .int gti, .int ggo, .ref gR, .int gch, .ref gD]))], [(gw, .inr (10, [.int gwr, .int gwk, .int gwc, .int gwg, .int gws, .ref gwa, .ref gwb]))], [(gwa, .inl (cy 3, gwan, .inr (.inr (.inr (.inr (yad gwad))))))], xg_rows gwad gwan (cy 1) gwak gwaG, [(gwb, .inl (cy 3, gwbn, .inr (.inr (.inr (.inr (yad gwbd))))))], xg_rows gwbd gwbn (cy 1) gwbk gwbG, [(gK, .inl (cy 4, 5, .inr (.inr (.inr (.inr (yad gKd))))))], xg_rows gKd 5 (cy 2) 5 gKG]) := by
  unfold fX9_bestTold_i at hR
  refine YM.ofI (cc := cX9_bestTold) (maxL := 7) (ret := (some .int)) (by decide +kernel) rfl (Nat.le_of_ble_eq_true rfl) [(0, .ref g), (1, .int i1)] rfl rfl (fun p e s m args below meth c A H0 Q C hnm ret => ?_)
  refine xr_aload_n (n := 1) (j := 0) C dd_X9_bestTold_0.1 rfl rfl ?_
  obtain ⟨x_1, hx_1, hR⟩ := yf_b hR
  refine xr_callV (n := 4) (As := []) (rest := []) C (kX9_bestLayout_i l D cy (g := g) (gth := gth) (gw := gw) (gB := gB) (gK := gK) (gU := gU) (gS := gS) (gbe := gbe) (gwo := gwo) (gta := gta) (glr := glr) (glc := glc) (gti := gti) (ggo := ggo) (gR := gR) (gch := gch) (gD := gD) (gwr := gwr) (gwk := gwk) (gwc := gwc) (gwg := gwg) (gws := gws) (gwa := gwa) (gwb := gwb) (gwad := gwad) (gwan := gwan) (gwak := gwak) (gwaG := gwaG) (gwbd := gwbd) (gwbn := gwbn) (gwbk := gwbk) (gwbG := gwbG) (gKd := gKd) (gKG := gKG) hx_1) mX9_bestLayout u_1351 u_1353 u_32 0 rfl rfl 8 [0, 1, 2, 3, 4, 5, 6, 7] [] rfl (by decide +kernel) rfl rfl rfl rfl (Nat.le_of_ble_eq_true rfl) (Nat.le_of_ble_eq_true rfl) (Nat.le_of_ble_eq_true rfl) (Nat.le_of_ble_eq_true rfl) (Nat.le_of_ble_eq_true rfl) dd_X9_bestTold_0.2.1 rfl (fun v_2 u_3 hp_4 => ?_)
  obtain ⟨q_5, rfl, rfl⟩ := hp_4
  refine xr_perm C 9 [0, 1, 2, 3, 4, 5, 6, 7, 8] [] [[(g, .inr (11, [.int gth, .ref gw, .ref gB, .ref gK, .ref gU, .ref gS, .int gbe, .int gwo, .long gta, .null, .int glr, .int glc, .int gti, .int ggo, .ref gR, .int gch, .ref gD]))], [(gw, .inr (10, [.int gwr, .int gwk, .int gwc, .int gwg, .int gws, .ref gwa, .ref gwb]))], [(gwa, .inl (cy 3, gwan, .inr (.inr (.inr (.inr (yad gwad))))))], xg_rows gwad gwan (cy 1) gwak gwaG, [(gwb, .inl (cy 3, gwbn, .inr (.inr (.inr (.inr (yad gwbd))))))], xg_rows gwbd gwbn (cy 1) gwbk gwbG, [(gK, .inl (cy 4, 5, .inr (.inr (.inr (.inr (yad gKd))))))], xg_rows gKd 5 (cy 2) 5 gKG, [(q_5, .inl (cy 1, x_1.2, .inl x_1.1))]] rfl (by decide +kernel) rfl ?_
  refine xr_st (st' := [.ref q_5]) rfl ?_
  refine xr_astore_n (n := 5) C [(2, .ref q_5), (0, .ref g), (1, .int i1)] dd_X9_bestTold_0.2.2.1 (by decide) rfl rfl ?_
  refine xr_aload_n (n := 6) (j := 0) C dd_X9_bestTold_0.2.2.2.1 rfl rfl ?_
  refine xr_alen (n := 7) C 8 0 rfl 1 rfl rfl dd_X9_bestTold_0.2.2.2.2.1 rfl ?_
  refine xr_if_ne (tgt := 12) (n := 10) C dd_X9_bestTold_0.2.2.2.2.2.1 rfl rfl (fun c_6 => ?_) (fun c_6 => ?_)
  · replace hR := yf_f c_6 hR
    refine xr_aload_n (n := 13) (j := 0) C dd_X9_bestTold_0.2.2.2.2.2.2.2.2.1 rfl rfl ?_
    refine xr_iconst (n := 14) (v := 0) C dd_X9_bestTold_0.2.2.2.2.2.2.2.2.2.1 rfl rfl ?_
    obtain ⟨g_7, hR⟩ := yf_g hR
    refine xr_iald (n := 15) C 8 0 rfl rfl g_7 dd_X9_bestTold_0.2.2.2.2.2.2.2.2.2.2.1 rfl ?_
    obtain ⟨x_8, hx_8, hR⟩ := yf_b hR
    refine xr_callSp (n := 18) (As := [.int (x_1.1 (0 : Int32).toNatClampNeg)]) (rest := []) C (kJ6_bitCount_0f7a4 l D cy (i1 := x_1.1 (0 : Int32).toNatClampNeg) hx_8) mJ6_bitCount_0f7a4 u_1379 u_349 9 [] [0, 1, 2, 3, 4, 5, 6, 7, 8] rfl (by decide +kernel) rfl rfl rfl rfl (Nat.le_of_ble_eq_true rfl) (Nat.le_of_ble_eq_true rfl) (Nat.le_of_ble_eq_true rfl) (Nat.le_of_ble_eq_true rfl) (Nat.le_of_ble_eq_true rfl) dd_X9_bestTold_0.2.2.2.2.2.2.2.2.2.2.2.1 rfl (fun _ _ hp => hp.2) (fun v_9 hp_11 => ?_)
    obtain ⟨rfl, -⟩ := hp_11
    refine xr_st (st' := [.int x_8]) rfl ?_
    refine xr_istore_n (n := 19) C [(3, .int x_8), (2, .ref q_5), (0, .ref g), (1, .int i1)] dd_X9_bestTold_0.2.2.2.2.2.2.2.2.2.2.2.2.1 (by decide) rfl rfl ?_
    refine xr_aload_n (n := 20) (j := 1) C dd_X9_bestTold_0.2.2.2.2.2.2.2.2.2.2.2.2.2.1 rfl rfl ?_
    refine xr_iconst (n := 21) (v := 1) C dd_X9_bestTold_0.2.2.2.2.2.2.2.2.2.2.2.2.2.2.1 rfl rfl ?_
    obtain ⟨g_12, hR⟩ := yf_g hR
    refine xr_iald (n := 22) C 8 0 rfl rfl g_12 dd_X9_bestTold_0.2.2.2.2.2.2.2.2.2.2.2.2.2.2.2.1 rfl ?_
    obtain ⟨x_13, hx_13, hR⟩ := yf_b hR
    refine xr_callSp (n := 25) (As := [.int (x_1.1 (1 : Int32).toNatClampNeg)]) (rest := []) C (kJ6_bitCount_0f7a4 l D cy (i1 := x_1.1 (1 : Int32).toNatClampNeg) hx_13) mJ6_bitCount_0f7a4 u_1379 u_349 9 [] [0, 1, 2, 3, 4, 5, 6, 7, 8] rfl (by decide +kernel) rfl rfl rfl rfl (Nat.le_of_ble_eq_true rfl) (Nat.le_of_ble_eq_true rfl) (Nat.le_of_ble_eq_true rfl) (Nat.le_of_ble_eq_true rfl) (Nat.le_of_ble_eq_true rfl) dd_X9_bestTold_1.1 rfl (fun _ _ hp => hp.2) (fun v_14 hp_16 => ?_)
    obtain ⟨rfl, -⟩ := hp_16
    refine xr_st (st' := [.int x_13]) rfl ?_
    refine xr_istore (n := 27) C [(4, .int x_13), (3, .int x_8), (2, .ref q_5), (0, .ref g), (1, .int i1)] dd_X9_bestTold_1.2.1 (by decide) rfl rfl ?_
    refine xr_aload_n (n := 28) (j := 3) C dd_X9_bestTold_1.2.2.1 rfl rfl ?_
    refine xr_get (n := 31) C 0 rfl rfl 1 (by decide) in_X9 u_1238 rfl (v := .ref gw) rfl dd_X9_bestTold_1.2.2.2.1 rfl ?_
    obtain ⟨x_17, hx_17, hR⟩ := yf_b hR
    refine xr_callVp (n := 34) (As := []) (rest := []) C (kX8_rows l D cy (w := gw) (wr := gwr) (wk := gwk) (wc := gwc) (wg := gwg) (ws := gws) (wa := gwa) (wb := gwb) hx_17) mX8_rows u_1380 u_1381 u_1382 1 rfl rfl 9 [1] [0, 2, 3, 4, 5, 6, 7, 8] rfl (by decide +kernel) rfl rfl rfl rfl (Nat.le_of_ble_eq_true rfl) (Nat.le_of_ble_eq_true rfl) (Nat.le_of_ble_eq_true rfl) (Nat.le_of_ble_eq_true rfl) (Nat.le_of_ble_eq_true rfl) dd_X9_bestTold_1.2.2.2.2.1 rfl (fun _ _ hp => hp.2) (fun v_18 hp_20 => ?_)
    obtain ⟨rfl, -⟩ := hp_20
    refine xr_st (st' := [.int x_17]) rfl ?_
    refine xr_iload_n (n := 35) (j := 1) C dd_X9_bestTold_1.2.2.2.2.2.1 rfl rfl ?_
    obtain ⟨x_21, hx_21, hR⟩ := yf_b hR
    refine xr_callSp (n := 38) (As := [.int x_17, .int x_8]) (rest := []) C (kX9_tiles l D cy (i1 := x_17) (i2 := x_8) hx_21) mX9_tiles u_1384 u_1385 9 [] [0, 1, 2, 3, 4, 5, 6, 7, 8] rfl (by decide +kernel) rfl rfl rfl rfl (Nat.le_of_ble_eq_true rfl) (Nat.le_of_ble_eq_true rfl) (Nat.le_of_ble_eq_true rfl) (Nat.le_of_ble_eq_true rfl) (Nat.le_of_ble_eq_true rfl) dd_X9_bestTold_1.2.2.2.2.2.2.1 rfl (fun _ _ hp => hp.2) (fun v_22 hp_24 => ?_)
    obtain ⟨rfl, -⟩ := hp_24
    refine xr_st (st' := [.int x_21]) rfl ?_
    refine xr_istore (n := 40) C [(5, .int x_21), (4, .int x_13), (3, .int x_8), (2, .ref q_5), (0, .ref g), (1, .int i1)] dd_X9_bestTold_1.2.2.2.2.2.2.2.1 (by decide) rfl rfl ?_
    refine xr_aload_n (n := 41) (j := 4) C dd_X9_bestTold_1.2.2.2.2.2.2.2.2.1 rfl rfl ?_
    refine xr_get (n := 44) C 0 rfl rfl 1 (by decide) in_X9 u_1238 rfl (v := .ref gw) rfl dd_X9_bestTold_1.2.2.2.2.2.2.2.2.2.1 rfl ?_
    obtain ⟨x_25, hx_25, hR⟩ := yf_b hR
    refine xr_callVp (n := 47) (As := []) (rest := []) C (kX8_columns l D cy (w := gw) (wr := gwr) (wk := gwk) (wc := gwc) (wg := gwg) (ws := gws) (wa := gwa) (wb := gwb) hx_25) mX8_columns u_1387 u_1388 u_1389 1 rfl rfl 9 [1] [0, 2, 3, 4, 5, 6, 7, 8] rfl (by decide +kernel) rfl rfl rfl rfl (Nat.le_of_ble_eq_true rfl) (Nat.le_of_ble_eq_true rfl) (Nat.le_of_ble_eq_true rfl) (Nat.le_of_ble_eq_true rfl) (Nat.le_of_ble_eq_true rfl) dd_X9_bestTold_1.2.2.2.2.2.2.2.2.2.2.1 rfl (fun _ _ hp => hp.2) (fun v_26 hp_28 => ?_)
    obtain ⟨rfl, -⟩ := hp_28
    refine xr_st (st' := [.int x_25]) rfl ?_
    refine xr_iload (n := 49) (j := 1) C dd_X9_bestTold_1.2.2.2.2.2.2.2.2.2.2.2.1 rfl rfl ?_
    obtain ⟨x_29, hx_29, hR⟩ := yf_b hR
    refine xr_callSp (n := 52) (As := [.int x_25, .int x_13]) (rest := []) C (kX9_tiles l D cy (i1 := x_25) (i2 := x_13) hx_29) mX9_tiles u_1384 u_1385 9 [] [0, 1, 2, 3, 4, 5, 6, 7, 8] rfl (by decide +kernel) rfl rfl rfl rfl (Nat.le_of_ble_eq_true rfl) (Nat.le_of_ble_eq_true rfl) (Nat.le_of_ble_eq_true rfl) (Nat.le_of_ble_eq_true rfl) (Nat.le_of_ble_eq_true rfl) dd_X9_bestTold_1.2.2.2.2.2.2.2.2.2.2.2.2.1 rfl (fun _ _ hp => hp.2) (fun v_30 hp_32 => ?_)
    obtain ⟨rfl, -⟩ := hp_32
    refine xr_st (st' := [.int x_29]) rfl ?_
    refine xr_istore (n := 54) C [(6, .int x_29), (5, .int x_21), (4, .int x_13), (3, .int x_8), (2, .ref q_5), (0, .ref g), (1, .int i1)] dd_X9_bestTold_1.2.2.2.2.2.2.2.2.2.2.2.2.2.1 (by decide) rfl rfl ?_
    refine xr_iload_n (n := 55) (j := 6) C dd_X9_bestTold_1.2.2.2.2.2.2.2.2.2.2.2.2.2.2.1 rfl rfl ?_
    by_cases c_33 : i1 = 0
    · replace hR := yf_t c_33 hR
      refine xr_tableIn (off := 29) (tgt := 84) C dX9_bestTold_55 (by rw [c_33]; decide) (by rw [c_33]; decide) (by rw [c_33]; decide) rfl ?_
      refine xr_aload_n (n := 85) (j := 5) C dd_X9_bestTold_1.2.2.2.2.2.2.2.2.2.2.2.2.2.2.2.1 rfl rfl ?_
      refine xr_get (n := 88) C 0 rfl rfl 1 (by decide) in_X9 u_1238 rfl (v := .ref gw) rfl dd_X9_bestTold_2.1 rfl ?_
      refine xr_aload_n (n := 89) (j := 4) C dd_X9_bestTold_2.2.1 rfl rfl ?_
      refine xr_iconst (n := 90) (v := 0) C dd_X9_bestTold_2.2.2.1 rfl rfl ?_
      obtain ⟨g_34, hR⟩ := yf_g hR
      refine xr_iald (n := 91) C 8 0 rfl rfl g_34 dd_X9_bestTold_2.2.2.2.1 rfl ?_
      refine xr_aload_n (n := 92) (j := 4) C dd_X9_bestTold_2.2.2.2.2.1 rfl rfl ?_
      refine xr_iconst (n := 93) (v := 1) C dd_X9_bestTold_2.2.2.2.2.2.1 rfl rfl ?_
      obtain ⟨g_35, hR⟩ := yf_g hR
      refine xr_iald (n := 94) C 8 0 rfl rfl g_35 dd_X9_bestTold_2.2.2.2.2.2.2.1 rfl ?_
      refine xr_aload_n (n := 95) (j := 5) C dd_X9_bestTold_2.2.2.2.2.2.2.2.1 rfl rfl ?_
      refine xr_get (n := 98) C 0 rfl rfl 1 (by decide) in_X9 u_1238 rfl (v := .ref gw) rfl dd_X9_bestTold_2.2.2.2.2.2.2.2.2.1 rfl ?_
      obtain ⟨x_36, hx_36, hR⟩ := yf_b hR
      refine xr_callVp (n := 101) (As := []) (rest := [.int (x_1.1 (1 : Int32).toNatClampNeg), .int (x_1.1 (0 : Int32).toNatClampNeg), .ref gw]) C (kX8_steps l D cy (w := gw) (wr := gwr) (wk := gwk) (wc := gwc) (wg := gwg) (ws := gws) (wa := gwa) (wb := gwb) (wad := gwad) (wan := gwan) (wak := gwak) (waG := gwaG) (wbd := gwbd) (wbn := gwbn) (wbk := gwbk) (wbG := gwbG) hx_36) mX8_steps u_1355 u_1356 u_1357 1 rfl rfl 9 [1, 2, 3, 4, 5] [0, 6, 7, 8] rfl (by decide +kernel) rfl rfl rfl rfl (Nat.le_of_ble_eq_true rfl) (Nat.le_of_ble_eq_true rfl) (Nat.le_of_ble_eq_true rfl) (Nat.le_of_ble_eq_true rfl) (Nat.le_of_ble_eq_true rfl) dd_X9_bestTold_2.2.2.2.2.2.2.2.2.2.1 rfl (fun _ _ hp => hp.2) (fun v_37 hp_39 => ?_)
      obtain ⟨rfl, -⟩ := hp_39
      refine xr_st (st' := [.int x_36, .int (x_1.1 (1 : Int32).toNatClampNeg), .int (x_1.1 (0 : Int32).toNatClampNeg), .ref gw]) rfl ?_
      obtain ⟨x_40, hx_40, hR⟩ := yf_b hR
      refine xr_callSp (n := 104) (As := [.ref gw, .int (x_1.1 (0 : Int32).toNatClampNeg), .int (x_1.1 (1 : Int32).toNatClampNeg), .int x_36]) (rest := []) C (kX9_beatsOf l D cy (w := gw) (wr := gwr) (wk := gwk) (wc := gwc) (wg := gwg) (ws := gws) (wa := gwa) (wb := gwb) (i1 := x_1.1 (0 : Int32).toNatClampNeg) (i2 := x_1.1 (1 : Int32).toNatClampNeg) (i3 := x_36) hx_40) mX9_beatsOf u_1376 u_1377 9 [1] [0, 2, 3, 4, 5, 6, 7, 8] rfl (by decide +kernel) rfl rfl rfl rfl (Nat.le_of_ble_eq_true rfl) (Nat.le_of_ble_eq_true rfl) (Nat.le_of_ble_eq_true rfl) (Nat.le_of_ble_eq_true rfl) (Nat.le_of_ble_eq_true rfl) dd_X9_bestTold_2.2.2.2.2.2.2.2.2.2.2.1 rfl (fun _ _ hp => hp.2) (fun v_41 hp_43 => ?_)
      obtain ⟨rfl, -⟩ := hp_43
      refine xr_st (st' := [.int x_40]) rfl ?_
      obtain rfl := Option.some.inj hR
      refine xr_perm C 9 [0, 1, 2, 3, 4, 5, 6, 7] [8] [[(g, .inr (11, [.int gth, .ref gw, .ref gB, .ref gK, .ref gU, .ref gS, .int gbe, .int gwo, .long gta, .null, .int glr, .int glc, .int gti, .int ggo, .ref gR, .int gch, .ref gD]))], [(gw, .inr (10, [.int gwr, .int gwk, .int gwc, .int gwg, .int gws, .ref gwa, .ref gwb]))], [(gwa, .inl (cy 3, gwan, .inr (.inr (.inr (.inr (yad gwad))))))], xg_rows gwad gwan (cy 1) gwak gwaG, [(gwb, .inl (cy 3, gwbn, .inr (.inr (.inr (.inr (yad gwbd))))))], xg_rows gwbd gwbn (cy 1) gwbk gwbG, [(gK, .inl (cy 4, 5, .inr (.inr (.inr (.inr (yad gKd))))))], xg_rows gKd 5 (cy 2) 5 gKG] rfl (by decide +kernel) rfl ?_
      exact ret x_40 ⟨rfl, rfl⟩ (Nat.le_of_ble_eq_true rfl) (Nat.le_of_ble_eq_true rfl) dd_X9_bestTold_2.2.2.2.2.2.2.2.2.2.2.2.1
    replace hR := yf_f c_33 hR
    by_cases c_44 : i1 = 1
    · replace hR := yf_t c_44 hR
      refine xr_tableIn (off := 50) (tgt := 105) C dX9_bestTold_55 (by rw [c_44]; decide) (by rw [c_44]; decide) (by rw [c_44]; decide) rfl ?_
      refine xr_aload_n (n := 106) (j := 4) C dd_X9_bestTold_2.2.2.2.2.2.2.2.2.2.2.2.2.1 rfl rfl ?_
      refine xr_iconst (n := 107) (v := 0) C dd_X9_bestTold_2.2.2.2.2.2.2.2.2.2.2.2.2.2.1 rfl rfl ?_
      obtain ⟨g_45, hR⟩ := yf_g hR
      refine xr_iald (n := 108) C 8 0 rfl rfl g_45 dd_X9_bestTold_2.2.2.2.2.2.2.2.2.2.2.2.2.2.2.1 rfl ?_
      obtain rfl := Option.some.inj hR
      refine xr_perm C 9 [0, 1, 2, 3, 4, 5, 6, 7] [8] [[(g, .inr (11, [.int gth, .ref gw, .ref gB, .ref gK, .ref gU, .ref gS, .int gbe, .int gwo, .long gta, .null, .int glr, .int glc, .int gti, .int ggo, .ref gR, .int gch, .ref gD]))], [(gw, .inr (10, [.int gwr, .int gwk, .int gwc, .int gwg, .int gws, .ref gwa, .ref gwb]))], [(gwa, .inl (cy 3, gwan, .inr (.inr (.inr (.inr (yad gwad))))))], xg_rows gwad gwan (cy 1) gwak gwaG, [(gwb, .inl (cy 3, gwbn, .inr (.inr (.inr (.inr (yad gwbd))))))], xg_rows gwbd gwbn (cy 1) gwbk gwbG, [(gK, .inl (cy 4, 5, .inr (.inr (.inr (.inr (yad gKd))))))], xg_rows gKd 5 (cy 2) 5 gKG] rfl (by decide +kernel) rfl ?_
      exact ret (x_1.1 (0 : Int32).toNatClampNeg) ⟨rfl, rfl⟩ (Nat.le_of_ble_eq_true rfl) (Nat.le_of_ble_eq_true rfl) dd_X9_bestTold_2.2.2.2.2.2.2.2.2.2.2.2.2.2.2.2.1
    replace hR := yf_f c_44 hR
    by_cases c_46 : i1 = 2
    · replace hR := yf_t c_46 hR
      refine xr_tableIn (off := 54) (tgt := 109) C dX9_bestTold_55 (by rw [c_46]; decide) (by rw [c_46]; decide) (by rw [c_46]; decide) rfl ?_
      refine xr_aload_n (n := 110) (j := 4) C dd_X9_bestTold_3.1 rfl rfl ?_
      refine xr_iconst (n := 111) (v := 1) C dd_X9_bestTold_3.2.1 rfl rfl ?_
      obtain ⟨g_47, hR⟩ := yf_g hR
      refine xr_iald (n := 112) C 8 0 rfl rfl g_47 dd_X9_bestTold_3.2.2.1 rfl ?_
      obtain rfl := Option.some.inj hR
      refine xr_perm C 9 [0, 1, 2, 3, 4, 5, 6, 7] [8] [[(g, .inr (11, [.int gth, .ref gw, .ref gB, .ref gK, .ref gU, .ref gS, .int gbe, .int gwo, .long gta, .null, .int glr, .int glc, .int gti, .int ggo, .ref gR, .int gch, .ref gD]))], [(gw, .inr (10, [.int gwr, .int gwk, .int gwc, .int gwg, .int gws, .ref gwa, .ref gwb]))], [(gwa, .inl (cy 3, gwan, .inr (.inr (.inr (.inr (yad gwad))))))], xg_rows gwad gwan (cy 1) gwak gwaG, [(gwb, .inl (cy 3, gwbn, .inr (.inr (.inr (.inr (yad gwbd))))))], xg_rows gwbd gwbn (cy 1) gwbk gwbG, [(gK, .inl (cy 4, 5, .inr (.inr (.inr (.inr (yad gKd))))))], xg_rows gKd 5 (cy 2) 5 gKG] rfl (by decide +kernel) rfl ?_
      exact ret (x_1.1 (1 : Int32).toNatClampNeg) ⟨rfl, rfl⟩ (Nat.le_of_ble_eq_true rfl) (Nat.le_of_ble_eq_true rfl) dd_X9_bestTold_3.2.2.2.1
    replace hR := yf_f c_46 hR
    by_cases c_48 : i1 = 3
    · replace hR := yf_t c_48 hR
      refine xr_tableIn (off := 58) (tgt := 113) C dX9_bestTold_55 (by rw [c_48]; decide) (by rw [c_48]; decide) (by rw [c_48]; decide) rfl ?_
      refine xr_iload (n := 115) (j := 1) C dd_X9_bestTold_3.2.2.2.2.1 rfl rfl ?_
      refine xr_iload (n := 117) (j := 0) C dd_X9_bestTold_3.2.2.2.2.2.1 rfl rfl ?_
      refine xr_imul (n := 118) C dd_X9_bestTold_3.2.2.2.2.2.2.1 rfl ?_
      obtain rfl := Option.some.inj hR
      refine xr_perm C 9 [0, 1, 2, 3, 4, 5, 6, 7] [8] [[(g, .inr (11, [.int gth, .ref gw, .ref gB, .ref gK, .ref gU, .ref gS, .int gbe, .int gwo, .long gta, .null, .int glr, .int glc, .int gti, .int ggo, .ref gR, .int gch, .ref gD]))], [(gw, .inr (10, [.int gwr, .int gwk, .int gwc, .int gwg, .int gws, .ref gwa, .ref gwb]))], [(gwa, .inl (cy 3, gwan, .inr (.inr (.inr (.inr (yad gwad))))))], xg_rows gwad gwan (cy 1) gwak gwaG, [(gwb, .inl (cy 3, gwbn, .inr (.inr (.inr (.inr (yad gwbd))))))], xg_rows gwbd gwbn (cy 1) gwbk gwbG, [(gK, .inl (cy 4, 5, .inr (.inr (.inr (.inr (yad gKd))))))], xg_rows gKd 5 (cy 2) 5 gKG] rfl (by decide +kernel) rfl ?_
      exact ret (x_21 * x_29) ⟨rfl, rfl⟩ (Nat.le_of_ble_eq_true rfl) (Nat.le_of_ble_eq_true rfl) dd_X9_bestTold_3.2.2.2.2.2.2.2.1
    replace hR := yf_f c_48 hR
    refine xr_tableOut (tgt := 119) C dX9_bestTold_55 (ytab_out (fun k h1 h2 => by
      rcases (show k = 0 ∨ k = 1 ∨ k = 2 ∨ k = 3 by omega) with rfl | rfl | rfl | rfl
      · exact c_33
      · exact c_44
      · exact c_46
      · exact c_48)) rfl ?_
    refine xr_aload_n (n := 120) (j := 5) C dd_X9_bestTold_3.2.2.2.2.2.2.2.2.1 rfl rfl ?_
    refine xr_get (n := 123) C 0 rfl rfl 1 (by decide) in_X9 u_1238 rfl (v := .ref gw) rfl dd_X9_bestTold_3.2.2.2.2.2.2.2.2.2.1 rfl ?_
    obtain ⟨x_49, hx_49, hR⟩ := yf_b hR
    refine xr_callVp (n := 126) (As := []) (rest := []) C (kX8_steps l D cy (w := gw) (wr := gwr) (wk := gwk) (wc := gwc) (wg := gwg) (ws := gws) (wa := gwa) (wb := gwb) (wad := gwad) (wan := gwan) (wak := gwak) (waG := gwaG) (wbd := gwbd) (wbn := gwbn) (wbk := gwbk) (wbG := gwbG) hx_49) mX8_steps u_1355 u_1356 u_1357 1 rfl rfl 9 [1, 2, 3, 4, 5] [0, 6, 7, 8] rfl (by decide +kernel) rfl rfl rfl rfl (Nat.le_of_ble_eq_true rfl) (Nat.le_of_ble_eq_true rfl) (Nat.le_of_ble_eq_true rfl) (Nat.le_of_ble_eq_true rfl) (Nat.le_of_ble_eq_true rfl) dd_X9_bestTold_3.2.2.2.2.2.2.2.2.2.2.1 rfl (fun _ _ hp => hp.2) (fun v_50 hp_52 => ?_)
    obtain ⟨rfl, -⟩ := hp_52
    refine xr_st (st' := [.int x_49]) rfl ?_
    refine xr_aload_n (n := 127) (j := 5) C dd_X9_bestTold_3.2.2.2.2.2.2.2.2.2.2.2.1 rfl rfl ?_
    refine xr_get (n := 130) C 0 rfl rfl 1 (by decide) in_X9 u_1238 rfl (v := .ref gw) rfl dd_X9_bestTold_3.2.2.2.2.2.2.2.2.2.2.2.2.1 rfl ?_
    obtain ⟨x_53, hx_53, hR⟩ := yf_b hR
    refine xr_callVp (n := 133) (As := []) (rest := [.int x_49]) C (kX8_rows l D cy (w := gw) (wr := gwr) (wk := gwk) (wc := gwc) (wg := gwg) (ws := gws) (wa := gwa) (wb := gwb) hx_53) mX8_rows u_1380 u_1381 u_1382 1 rfl rfl 9 [1] [0, 2, 3, 4, 5, 6, 7, 8] rfl (by decide +kernel) rfl rfl rfl rfl (Nat.le_of_ble_eq_true rfl) (Nat.le_of_ble_eq_true rfl) (Nat.le_of_ble_eq_true rfl) (Nat.le_of_ble_eq_true rfl) (Nat.le_of_ble_eq_true rfl) dd_X9_bestTold_3.2.2.2.2.2.2.2.2.2.2.2.2.2.1 rfl (fun _ _ hp => hp.2) (fun v_54 hp_56 => ?_)
    obtain ⟨rfl, -⟩ := hp_56
    refine xr_st (st' := [.int x_53, .int x_49]) rfl ?_
    refine xr_iload (n := 135) (j := 0) C dd_X9_bestTold_3.2.2.2.2.2.2.2.2.2.2.2.2.2.2.1 rfl rfl ?_
    refine xr_imul (n := 136) C dd_X9_bestTold_3.2.2.2.2.2.2.2.2.2.2.2.2.2.2.2.1 rfl ?_
    refine xr_aload_n (n := 137) (j := 5) C dd_X9_bestTold_4.1 rfl rfl ?_
    refine xr_get (n := 140) C 0 rfl rfl 1 (by decide) in_X9 u_1238 rfl (v := .ref gw) rfl dd_X9_bestTold_4.2.1 rfl ?_
    obtain ⟨x_57, hx_57, hR⟩ := yf_b hR
    refine xr_callVp (n := 143) (As := []) (rest := [.int (x_53 * x_29), .int x_49]) C (kX8_columns l D cy (w := gw) (wr := gwr) (wk := gwk) (wc := gwc) (wg := gwg) (ws := gws) (wa := gwa) (wb := gwb) hx_57) mX8_columns u_1387 u_1388 u_1389 1 rfl rfl 9 [1] [0, 2, 3, 4, 5, 6, 7, 8] rfl (by decide +kernel) rfl rfl rfl rfl (Nat.le_of_ble_eq_true rfl) (Nat.le_of_ble_eq_true rfl) (Nat.le_of_ble_eq_true rfl) (Nat.le_of_ble_eq_true rfl) (Nat.le_of_ble_eq_true rfl) dd_X9_bestTold_4.2.2.1 rfl (fun _ _ hp => hp.2) (fun v_58 hp_60 => ?_)
    obtain ⟨rfl, -⟩ := hp_60
    refine xr_st (st' := [.int x_57, .int (x_53 * x_29), .int x_49]) rfl ?_
    refine xr_iload (n := 145) (j := 1) C dd_X9_bestTold_4.2.2.2.1 rfl rfl ?_
    refine xr_imul (n := 146) C dd_X9_bestTold_4.2.2.2.2.1 rfl ?_
    refine xr_iadd (n := 147) C dd_X9_bestTold_4.2.2.2.2.2.1 rfl ?_
    refine xr_imul (n := 148) C dd_X9_bestTold_4.2.2.2.2.2.2.1 rfl ?_
    obtain rfl := Option.some.inj hR
    refine xr_perm C 9 [0, 1, 2, 3, 4, 5, 6, 7] [8] [[(g, .inr (11, [.int gth, .ref gw, .ref gB, .ref gK, .ref gU, .ref gS, .int gbe, .int gwo, .long gta, .null, .int glr, .int glc, .int gti, .int ggo, .ref gR, .int gch, .ref gD]))], [(gw, .inr (10, [.int gwr, .int gwk, .int gwc, .int gwg, .int gws, .ref gwa, .ref gwb]))], [(gwa, .inl (cy 3, gwan, .inr (.inr (.inr (.inr (yad gwad))))))], xg_rows gwad gwan (cy 1) gwak gwaG, [(gwb, .inl (cy 3, gwbn, .inr (.inr (.inr (.inr (yad gwbd))))))], xg_rows gwbd gwbn (cy 1) gwbk gwbG, [(gK, .inl (cy 4, 5, .inr (.inr (.inr (.inr (yad gKd))))))], xg_rows gKd 5 (cy 2) 5 gKG] rfl (by decide +kernel) rfl ?_
    exact ret (x_49 * ((x_53 * x_29) + (x_57 * x_21))) ⟨rfl, rfl⟩ (Nat.le_of_ble_eq_true rfl) (Nat.le_of_ble_eq_true rfl) dd_X9_bestTold_4.2.2.2.2.2.2.2.1
  · replace hR := yf_t c_6 hR
    refine xr_iconst (n := 11) (v := -1) C dd_X9_bestTold_0.2.2.2.2.2.2.1 rfl rfl ?_
    obtain rfl := Option.some.inj hR
    refine xr_perm C 9 [0, 1, 2, 3, 4, 5, 6, 7] [8] [[(g, .inr (11, [.int gth, .ref gw, .ref gB, .ref gK, .ref gU, .ref gS, .int gbe, .int gwo, .long gta, .null, .int glr, .int glc, .int gti, .int ggo, .ref gR, .int gch, .ref gD]))], [(gw, .inr (10, [.int gwr, .int gwk, .int gwc, .int gwg, .int gws, .ref gwa, .ref gwb]))], [(gwa, .inl (cy 3, gwan, .inr (.inr (.inr (.inr (yad gwad))))))], xg_rows gwad gwan (cy 1) gwak gwaG, [(gwb, .inl (cy 3, gwbn, .inr (.inr (.inr (.inr (yad gwbd))))))], xg_rows gwbd gwbn (cy 1) gwbk gwbG, [(gK, .inl (cy 4, 5, .inr (.inr (.inr (.inr (yad gKd))))))], xg_rows gKd 5 (cy 2) 5 gKG] rfl (by decide +kernel) rfl ?_
    exact ret (-1) ⟨rfl, rfl⟩ (Nat.le_of_ble_eq_true rfl) (Nat.le_of_ble_eq_true rfl) dd_X9_bestTold_0.2.2.2.2.2.2.2.1
def fX9_bestTold_r (gwr : Int32) (gwk : Int32) (gwc : Int32) (gwg : Int32) (gws : Int32) (gwan : Nat) (gwak : Nat) (gwaG : Nat → Nat → Int32) (gwbn : Nat) (gwbk : Nat) (gwbG : Nat → Nat → Int32) (gKG : Nat → Nat → Int32) (i1 : Int32) : Option (Int32) := ((fX9_bestLayout_r gwr gwk gwc gwg gws gwan gwak gwaG gwbn gwbk gwbG gKG).bind fun x_1 => (if (nI x_1.2) = 0 then some (-1) else (if ¬ ((0 : Int32) < 0 ∨ x_1.2 ≤ (0 : Int32).toNatClampNeg) then ((fJ6_bitCount_0f7a4 (x_1.1 (0 : Int32).toNatClampNeg)).bind fun x_8 => (if ¬ ((1 : Int32) < 0 ∨ x_1.2 ≤ (1 : Int32).toNatClampNeg) then ((fJ6_bitCount_0f7a4 (x_1.1 (1 : Int32).toNatClampNeg)).bind fun x_13 => ((fX8_rows gwr gws).bind fun x_17 => ((fX9_tiles x_17 x_8).bind fun x_21 => ((fX8_columns gwc gws).bind fun x_25 => ((fX9_tiles x_25 x_13).bind fun x_29 => (if i1 = 0 then (if ¬ ((0 : Int32) < 0 ∨ x_1.2 ≤ (0 : Int32).toNatClampNeg) then (if ¬ ((1 : Int32) < 0 ∨ x_1.2 ≤ (1 : Int32).toNatClampNeg) then ((fX8_steps gwk gwg gwan gwak gwaG gwbn gwbk gwbG).bind fun x_36 => ((fX9_beatsOf gwr gwc gws (x_1.1 (0 : Int32).toNatClampNeg) (x_1.1 (1 : Int32).toNatClampNeg) x_36).bind fun x_40 => some x_40)) else none) else none) else (if i1 = 1 then (if ¬ ((0 : Int32) < 0 ∨ x_1.2 ≤ (0 : Int32).toNatClampNeg) then some (x_1.1 (0 : Int32).toNatClampNeg) else none) else (if i1 = 2 then (if ¬ ((1 : Int32) < 0 ∨ x_1.2 ≤ (1 : Int32).toNatClampNeg) then some (x_1.1 (1 : Int32).toNatClampNeg) else none) else (if i1 = 3 then some (x_21 * x_29) else ((fX8_steps gwk gwg gwan gwak gwaG gwbn gwbk gwbG).bind fun x_49 => ((fX8_rows gwr gws).bind fun x_53 => ((fX8_columns gwc gws).bind fun x_57 => some (x_49 * ((x_53 * x_29) + (x_57 * x_21))))))))))))))) else none)) else none)))
set_option maxHeartbeats 4000000 in
set_option maxRecDepth 100000 in
theorem kX9_bestTold_r (l : Launch) (D : va_G) (cy : Nat → ClassId) (g : Nat) (gth : Int32) (gw : Nat) (gB : Nat) (gK : Nat) (gU : Nat) (gS : Nat) (gbe : Int32) (gwo : Int32) (gta : Int64) (gn : Nat) (glr : Int32) (glc : Int32) (gti : Int32) (ggo : Int32) (gR : Nat) (gch : Int32) (gD : Nat) (gwr : Int32) (gwk : Int32) (gwc : Int32) (gwg : Int32) (gws : Int32) (gwa : Nat) (gwb : Nat) (gwad : Nat → Nat) (gwan : Nat) (gwak : Nat) (gwaG : Nat → Nat → Int32) (gwbd : Nat → Nat) (gwbn : Nat) (gwbk : Nat) (gwbG : Nat → Nat → Int32) (gKd : Nat → Nat) (gKG : Nat → Nat → Int32) (i1 : Int32) {res : Int32} (hR : fX9_bestTold_r gwr gwk gwc gwg gws gwan gwak gwaG gwbn gwbk gwbG gKG i1 = some res) : YM l D cy yX9_bestTold hX9_bestTold 5 30 60 [.ref g, .int i1] [[(g, .inr (11, [.int gth, .ref gw, .ref gB, .ref gK, .ref gU, .ref gS, .int gbe, .int gwo, .long gta, .ref gn, .int glr, .int glc, .int gti, .int ggo, .ref gR, .int gch, .ref gD]))], [(gw, .inr (10, [.int gwr, .int gwk, .int gwc, .int gwg, .int gws, .ref gwa, .ref gwb]))], [(gwa, .inl (cy 3, gwan, .inr (.inr (.inr (.inr (yad gwad))))))], xg_rows gwad gwan (cy 1) gwak gwaG, [(gwb, .inl (cy 3, gwbn, .inr (.inr (.inr (.inr (yad gwbd))))))], xg_rows gwbd gwbn (cy 1) gwbk gwbG, [(gK, .inl (cy 4, 5, .inr (.inr (.inr (.inr (yad gKd))))))], xg_rows gKd 5 (cy 2) 5 gKG] (fun v u => v = some (.int res) ∧ u = [[(g, .inr (11, [.int gth, .ref gw, .ref gB, .ref gK, .ref gU, .ref gS, .int gbe, .int gwo, .long gta, .ref gn, .int glr, .int glc, .int gti, .int ggo, .ref gR, .int gch, .ref gD]))], [(gw, .inr (10, [.int gwr, .int gwk, .int gwc, .int gwg, .int gws, .ref gwa, .ref gwb]))], [(gwa, .inl (cy 3, gwan, .inr (.inr (.inr (.inr (yad gwad))))))], xg_rows gwad gwan (cy 1) gwak gwaG, [(gwb, .inl (cy 3, gwbn, .inr (.inr (.inr (.inr (yad gwbd))))))], xg_rows gwbd gwbn (cy 1) gwbk gwbG, [(gK, .inl (cy 4, 5, .inr (.inr (.inr (.inr (yad gKd))))))], xg_rows gKd 5 (cy 2) 5 gKG]) := by
  unfold fX9_bestTold_r at hR
  refine YM.ofI (cc := cX9_bestTold) (maxL := 7) (ret := (some .int)) (by decide +kernel) rfl (Nat.le_of_ble_eq_true rfl) [(0, .ref g), (1, .int i1)] rfl rfl (fun p e s m args below meth c A H0 Q C hnm ret => ?_)
  refine xr_aload_n (n := 1) (j := 0) C dd_X9_bestTold_0.1 rfl rfl ?_
  obtain ⟨x_1, hx_1, hR⟩ := yf_b hR
  refine xr_callV (n := 4) (As := []) (rest := []) C (kX9_bestLayout_r l D cy (g := g) (gth := gth) (gw := gw) (gB := gB) (gK := gK) (gU := gU) (gS := gS) (gbe := gbe) (gwo := gwo) (gta := gta) (gn := gn) (glr := glr) (glc := glc) (gti := gti) (ggo := ggo) (gR := gR) (gch := gch) (gD := gD) (gwr := gwr) (gwk := gwk) (gwc := gwc) (gwg := gwg) (gws := gws) (gwa := gwa) (gwb := gwb) (gwad := gwad) (gwan := gwan) (gwak := gwak) (gwaG := gwaG) (gwbd := gwbd) (gwbn := gwbn) (gwbk := gwbk) (gwbG := gwbG) (gKd := gKd) (gKG := gKG) hx_1) mX9_bestLayout u_1351 u_1353 u_32 0 rfl rfl 8 [0, 1, 2, 3, 4, 5, 6, 7] [] rfl (by decide +kernel) rfl rfl rfl rfl (Nat.le_of_ble_eq_true rfl) (Nat.le_of_ble_eq_true rfl) (Nat.le_of_ble_eq_true rfl) (Nat.le_of_ble_eq_true rfl) (Nat.le_of_ble_eq_true rfl) dd_X9_bestTold_0.2.1 rfl (fun v_2 u_3 hp_4 => ?_)
  obtain ⟨q_5, rfl, rfl⟩ := hp_4
  refine xr_perm C 9 [0, 1, 2, 3, 4, 5, 6, 7, 8] [] [[(g, .inr (11, [.int gth, .ref gw, .ref gB, .ref gK, .ref gU, .ref gS, .int gbe, .int gwo, .long gta, .ref gn, .int glr, .int glc, .int gti, .int ggo, .ref gR, .int gch, .ref gD]))], [(gw, .inr (10, [.int gwr, .int gwk, .int gwc, .int gwg, .int gws, .ref gwa, .ref gwb]))], [(gwa, .inl (cy 3, gwan, .inr (.inr (.inr (.inr (yad gwad))))))], xg_rows gwad gwan (cy 1) gwak gwaG, [(gwb, .inl (cy 3, gwbn, .inr (.inr (.inr (.inr (yad gwbd))))))], xg_rows gwbd gwbn (cy 1) gwbk gwbG, [(gK, .inl (cy 4, 5, .inr (.inr (.inr (.inr (yad gKd))))))], xg_rows gKd 5 (cy 2) 5 gKG, [(q_5, .inl (cy 1, x_1.2, .inl x_1.1))]] rfl (by decide +kernel) rfl ?_
  refine xr_st (st' := [.ref q_5]) rfl ?_
  refine xr_astore_n (n := 5) C [(2, .ref q_5), (0, .ref g), (1, .int i1)] dd_X9_bestTold_0.2.2.1 (by decide) rfl rfl ?_
  refine xr_aload_n (n := 6) (j := 0) C dd_X9_bestTold_0.2.2.2.1 rfl rfl ?_
  refine xr_alen (n := 7) C 8 0 rfl 1 rfl rfl dd_X9_bestTold_0.2.2.2.2.1 rfl ?_
  refine xr_if_ne (tgt := 12) (n := 10) C dd_X9_bestTold_0.2.2.2.2.2.1 rfl rfl (fun c_6 => ?_) (fun c_6 => ?_)
  · replace hR := yf_f c_6 hR
    refine xr_aload_n (n := 13) (j := 0) C dd_X9_bestTold_0.2.2.2.2.2.2.2.2.1 rfl rfl ?_
    refine xr_iconst (n := 14) (v := 0) C dd_X9_bestTold_0.2.2.2.2.2.2.2.2.2.1 rfl rfl ?_
    obtain ⟨g_7, hR⟩ := yf_g hR
    refine xr_iald (n := 15) C 8 0 rfl rfl g_7 dd_X9_bestTold_0.2.2.2.2.2.2.2.2.2.2.1 rfl ?_
    obtain ⟨x_8, hx_8, hR⟩ := yf_b hR
    refine xr_callSp (n := 18) (As := [.int (x_1.1 (0 : Int32).toNatClampNeg)]) (rest := []) C (kJ6_bitCount_0f7a4 l D cy (i1 := x_1.1 (0 : Int32).toNatClampNeg) hx_8) mJ6_bitCount_0f7a4 u_1379 u_349 9 [] [0, 1, 2, 3, 4, 5, 6, 7, 8] rfl (by decide +kernel) rfl rfl rfl rfl (Nat.le_of_ble_eq_true rfl) (Nat.le_of_ble_eq_true rfl) (Nat.le_of_ble_eq_true rfl) (Nat.le_of_ble_eq_true rfl) (Nat.le_of_ble_eq_true rfl) dd_X9_bestTold_0.2.2.2.2.2.2.2.2.2.2.2.1 rfl (fun _ _ hp => hp.2) (fun v_9 hp_11 => ?_)
    obtain ⟨rfl, -⟩ := hp_11
    refine xr_st (st' := [.int x_8]) rfl ?_
    refine xr_istore_n (n := 19) C [(3, .int x_8), (2, .ref q_5), (0, .ref g), (1, .int i1)] dd_X9_bestTold_0.2.2.2.2.2.2.2.2.2.2.2.2.1 (by decide) rfl rfl ?_
    refine xr_aload_n (n := 20) (j := 1) C dd_X9_bestTold_0.2.2.2.2.2.2.2.2.2.2.2.2.2.1 rfl rfl ?_
    refine xr_iconst (n := 21) (v := 1) C dd_X9_bestTold_0.2.2.2.2.2.2.2.2.2.2.2.2.2.2.1 rfl rfl ?_
    obtain ⟨g_12, hR⟩ := yf_g hR
    refine xr_iald (n := 22) C 8 0 rfl rfl g_12 dd_X9_bestTold_0.2.2.2.2.2.2.2.2.2.2.2.2.2.2.2.1 rfl ?_
    obtain ⟨x_13, hx_13, hR⟩ := yf_b hR
    refine xr_callSp (n := 25) (As := [.int (x_1.1 (1 : Int32).toNatClampNeg)]) (rest := []) C (kJ6_bitCount_0f7a4 l D cy (i1 := x_1.1 (1 : Int32).toNatClampNeg) hx_13) mJ6_bitCount_0f7a4 u_1379 u_349 9 [] [0, 1, 2, 3, 4, 5, 6, 7, 8] rfl (by decide +kernel) rfl rfl rfl rfl (Nat.le_of_ble_eq_true rfl) (Nat.le_of_ble_eq_true rfl) (Nat.le_of_ble_eq_true rfl) (Nat.le_of_ble_eq_true rfl) (Nat.le_of_ble_eq_true rfl) dd_X9_bestTold_1.1 rfl (fun _ _ hp => hp.2) (fun v_14 hp_16 => ?_)
    obtain ⟨rfl, -⟩ := hp_16
    refine xr_st (st' := [.int x_13]) rfl ?_
    refine xr_istore (n := 27) C [(4, .int x_13), (3, .int x_8), (2, .ref q_5), (0, .ref g), (1, .int i1)] dd_X9_bestTold_1.2.1 (by decide) rfl rfl ?_
    refine xr_aload_n (n := 28) (j := 3) C dd_X9_bestTold_1.2.2.1 rfl rfl ?_
    refine xr_get (n := 31) C 0 rfl rfl 1 (by decide) in_X9 u_1238 rfl (v := .ref gw) rfl dd_X9_bestTold_1.2.2.2.1 rfl ?_
    obtain ⟨x_17, hx_17, hR⟩ := yf_b hR
    refine xr_callVp (n := 34) (As := []) (rest := []) C (kX8_rows l D cy (w := gw) (wr := gwr) (wk := gwk) (wc := gwc) (wg := gwg) (ws := gws) (wa := gwa) (wb := gwb) hx_17) mX8_rows u_1380 u_1381 u_1382 1 rfl rfl 9 [1] [0, 2, 3, 4, 5, 6, 7, 8] rfl (by decide +kernel) rfl rfl rfl rfl (Nat.le_of_ble_eq_true rfl) (Nat.le_of_ble_eq_true rfl) (Nat.le_of_ble_eq_true rfl) (Nat.le_of_ble_eq_true rfl) (Nat.le_of_ble_eq_true rfl) dd_X9_bestTold_1.2.2.2.2.1 rfl (fun _ _ hp => hp.2) (fun v_18 hp_20 => ?_)
    obtain ⟨rfl, -⟩ := hp_20
    refine xr_st (st' := [.int x_17]) rfl ?_
    refine xr_iload_n (n := 35) (j := 1) C dd_X9_bestTold_1.2.2.2.2.2.1 rfl rfl ?_
    obtain ⟨x_21, hx_21, hR⟩ := yf_b hR
    refine xr_callSp (n := 38) (As := [.int x_17, .int x_8]) (rest := []) C (kX9_tiles l D cy (i1 := x_17) (i2 := x_8) hx_21) mX9_tiles u_1384 u_1385 9 [] [0, 1, 2, 3, 4, 5, 6, 7, 8] rfl (by decide +kernel) rfl rfl rfl rfl (Nat.le_of_ble_eq_true rfl) (Nat.le_of_ble_eq_true rfl) (Nat.le_of_ble_eq_true rfl) (Nat.le_of_ble_eq_true rfl) (Nat.le_of_ble_eq_true rfl) dd_X9_bestTold_1.2.2.2.2.2.2.1 rfl (fun _ _ hp => hp.2) (fun v_22 hp_24 => ?_)
    obtain ⟨rfl, -⟩ := hp_24
    refine xr_st (st' := [.int x_21]) rfl ?_
    refine xr_istore (n := 40) C [(5, .int x_21), (4, .int x_13), (3, .int x_8), (2, .ref q_5), (0, .ref g), (1, .int i1)] dd_X9_bestTold_1.2.2.2.2.2.2.2.1 (by decide) rfl rfl ?_
    refine xr_aload_n (n := 41) (j := 4) C dd_X9_bestTold_1.2.2.2.2.2.2.2.2.1 rfl rfl ?_
    refine xr_get (n := 44) C 0 rfl rfl 1 (by decide) in_X9 u_1238 rfl (v := .ref gw) rfl dd_X9_bestTold_1.2.2.2.2.2.2.2.2.2.1 rfl ?_
    obtain ⟨x_25, hx_25, hR⟩ := yf_b hR
    refine xr_callVp (n := 47) (As := []) (rest := []) C (kX8_columns l D cy (w := gw) (wr := gwr) (wk := gwk) (wc := gwc) (wg := gwg) (ws := gws) (wa := gwa) (wb := gwb) hx_25) mX8_columns u_1387 u_1388 u_1389 1 rfl rfl 9 [1] [0, 2, 3, 4, 5, 6, 7, 8] rfl (by decide +kernel) rfl rfl rfl rfl (Nat.le_of_ble_eq_true rfl) (Nat.le_of_ble_eq_true rfl) (Nat.le_of_ble_eq_true rfl) (Nat.le_of_ble_eq_true rfl) (Nat.le_of_ble_eq_true rfl) dd_X9_bestTold_1.2.2.2.2.2.2.2.2.2.2.1 rfl (fun _ _ hp => hp.2) (fun v_26 hp_28 => ?_)
    obtain ⟨rfl, -⟩ := hp_28
    refine xr_st (st' := [.int x_25]) rfl ?_
    refine xr_iload (n := 49) (j := 1) C dd_X9_bestTold_1.2.2.2.2.2.2.2.2.2.2.2.1 rfl rfl ?_
    obtain ⟨x_29, hx_29, hR⟩ := yf_b hR
    refine xr_callSp (n := 52) (As := [.int x_25, .int x_13]) (rest := []) C (kX9_tiles l D cy (i1 := x_25) (i2 := x_13) hx_29) mX9_tiles u_1384 u_1385 9 [] [0, 1, 2, 3, 4, 5, 6, 7, 8] rfl (by decide +kernel) rfl rfl rfl rfl (Nat.le_of_ble_eq_true rfl) (Nat.le_of_ble_eq_true rfl) (Nat.le_of_ble_eq_true rfl) (Nat.le_of_ble_eq_true rfl) (Nat.le_of_ble_eq_true rfl) dd_X9_bestTold_1.2.2.2.2.2.2.2.2.2.2.2.2.1 rfl (fun _ _ hp => hp.2) (fun v_30 hp_32 => ?_)
    obtain ⟨rfl, -⟩ := hp_32
    refine xr_st (st' := [.int x_29]) rfl ?_
    refine xr_istore (n := 54) C [(6, .int x_29), (5, .int x_21), (4, .int x_13), (3, .int x_8), (2, .ref q_5), (0, .ref g), (1, .int i1)] dd_X9_bestTold_1.2.2.2.2.2.2.2.2.2.2.2.2.2.1 (by decide) rfl rfl ?_
    refine xr_iload_n (n := 55) (j := 6) C dd_X9_bestTold_1.2.2.2.2.2.2.2.2.2.2.2.2.2.2.1 rfl rfl ?_
    by_cases c_33 : i1 = 0
    · replace hR := yf_t c_33 hR
      refine xr_tableIn (off := 29) (tgt := 84) C dX9_bestTold_55 (by rw [c_33]; decide) (by rw [c_33]; decide) (by rw [c_33]; decide) rfl ?_
      refine xr_aload_n (n := 85) (j := 5) C dd_X9_bestTold_1.2.2.2.2.2.2.2.2.2.2.2.2.2.2.2.1 rfl rfl ?_
      refine xr_get (n := 88) C 0 rfl rfl 1 (by decide) in_X9 u_1238 rfl (v := .ref gw) rfl dd_X9_bestTold_2.1 rfl ?_
      refine xr_aload_n (n := 89) (j := 4) C dd_X9_bestTold_2.2.1 rfl rfl ?_
      refine xr_iconst (n := 90) (v := 0) C dd_X9_bestTold_2.2.2.1 rfl rfl ?_
      obtain ⟨g_34, hR⟩ := yf_g hR
      refine xr_iald (n := 91) C 8 0 rfl rfl g_34 dd_X9_bestTold_2.2.2.2.1 rfl ?_
      refine xr_aload_n (n := 92) (j := 4) C dd_X9_bestTold_2.2.2.2.2.1 rfl rfl ?_
      refine xr_iconst (n := 93) (v := 1) C dd_X9_bestTold_2.2.2.2.2.2.1 rfl rfl ?_
      obtain ⟨g_35, hR⟩ := yf_g hR
      refine xr_iald (n := 94) C 8 0 rfl rfl g_35 dd_X9_bestTold_2.2.2.2.2.2.2.1 rfl ?_
      refine xr_aload_n (n := 95) (j := 5) C dd_X9_bestTold_2.2.2.2.2.2.2.2.1 rfl rfl ?_
      refine xr_get (n := 98) C 0 rfl rfl 1 (by decide) in_X9 u_1238 rfl (v := .ref gw) rfl dd_X9_bestTold_2.2.2.2.2.2.2.2.2.1 rfl ?_
      obtain ⟨x_36, hx_36, hR⟩ := yf_b hR
      refine xr_callVp (n := 101) (As := []) (rest := [.int (x_1.1 (1 : Int32).toNatClampNeg), .int (x_1.1 (0 : Int32).toNatClampNeg), .ref gw]) C (kX8_steps l D cy (w := gw) (wr := gwr) (wk := gwk) (wc := gwc) (wg := gwg) (ws := gws) (wa := gwa) (wb := gwb) (wad := gwad) (wan := gwan) (wak := gwak) (waG := gwaG) (wbd := gwbd) (wbn := gwbn) (wbk := gwbk) (wbG := gwbG) hx_36) mX8_steps u_1355 u_1356 u_1357 1 rfl rfl 9 [1, 2, 3, 4, 5] [0, 6, 7, 8] rfl (by decide +kernel) rfl rfl rfl rfl (Nat.le_of_ble_eq_true rfl) (Nat.le_of_ble_eq_true rfl) (Nat.le_of_ble_eq_true rfl) (Nat.le_of_ble_eq_true rfl) (Nat.le_of_ble_eq_true rfl) dd_X9_bestTold_2.2.2.2.2.2.2.2.2.2.1 rfl (fun _ _ hp => hp.2) (fun v_37 hp_39 => ?_)
      obtain ⟨rfl, -⟩ := hp_39
      refine xr_st (st' := [.int x_36, .int (x_1.1 (1 : Int32).toNatClampNeg), .int (x_1.1 (0 : Int32).toNatClampNeg), .ref gw]) rfl ?_
      obtain ⟨x_40, hx_40, hR⟩ := yf_b hR
      refine xr_callSp (n := 104) (As := [.ref gw, .int (x_1.1 (0 : Int32).toNatClampNeg), .int (x_1.1 (1 : Int32).toNatClampNeg), .int x_36]) (rest := []) C (kX9_beatsOf l D cy (w := gw) (wr := gwr) (wk := gwk) (wc := gwc) (wg := gwg) (ws := gws) (wa := gwa) (wb := gwb) (i1 := x_1.1 (0 : Int32).toNatClampNeg) (i2 := x_1.1 (1 : Int32).toNatClampNeg) (i3 := x_36) hx_40) mX9_beatsOf u_1376 u_1377 9 [1] [0, 2, 3, 4, 5, 6, 7, 8] rfl (by decide +kernel) rfl rfl rfl rfl (Nat.le_of_ble_eq_true rfl) (Nat.le_of_ble_eq_true rfl) (Nat.le_of_ble_eq_true rfl) (Nat.le_of_ble_eq_true rfl) (Nat.le_of_ble_eq_true rfl) dd_X9_bestTold_2.2.2.2.2.2.2.2.2.2.2.1 rfl (fun _ _ hp => hp.2) (fun v_41 hp_43 => ?_)
      obtain ⟨rfl, -⟩ := hp_43
      refine xr_st (st' := [.int x_40]) rfl ?_
      obtain rfl := Option.some.inj hR
      refine xr_perm C 9 [0, 1, 2, 3, 4, 5, 6, 7] [8] [[(g, .inr (11, [.int gth, .ref gw, .ref gB, .ref gK, .ref gU, .ref gS, .int gbe, .int gwo, .long gta, .ref gn, .int glr, .int glc, .int gti, .int ggo, .ref gR, .int gch, .ref gD]))], [(gw, .inr (10, [.int gwr, .int gwk, .int gwc, .int gwg, .int gws, .ref gwa, .ref gwb]))], [(gwa, .inl (cy 3, gwan, .inr (.inr (.inr (.inr (yad gwad))))))], xg_rows gwad gwan (cy 1) gwak gwaG, [(gwb, .inl (cy 3, gwbn, .inr (.inr (.inr (.inr (yad gwbd))))))], xg_rows gwbd gwbn (cy 1) gwbk gwbG, [(gK, .inl (cy 4, 5, .inr (.inr (.inr (.inr (yad gKd))))))], xg_rows gKd 5 (cy 2) 5 gKG] rfl (by decide +kernel) rfl ?_
      exact ret x_40 ⟨rfl, rfl⟩ (Nat.le_of_ble_eq_true rfl) (Nat.le_of_ble_eq_true rfl) dd_X9_bestTold_2.2.2.2.2.2.2.2.2.2.2.2.1
    replace hR := yf_f c_33 hR
    by_cases c_44 : i1 = 1
    · replace hR := yf_t c_44 hR
      refine xr_tableIn (off := 50) (tgt := 105) C dX9_bestTold_55 (by rw [c_44]; decide) (by rw [c_44]; decide) (by rw [c_44]; decide) rfl ?_
      refine xr_aload_n (n := 106) (j := 4) C dd_X9_bestTold_2.2.2.2.2.2.2.2.2.2.2.2.2.1 rfl rfl ?_
      refine xr_iconst (n := 107) (v := 0) C dd_X9_bestTold_2.2.2.2.2.2.2.2.2.2.2.2.2.2.1 rfl rfl ?_
      obtain ⟨g_45, hR⟩ := yf_g hR
      refine xr_iald (n := 108) C 8 0 rfl rfl g_45 dd_X9_bestTold_2.2.2.2.2.2.2.2.2.2.2.2.2.2.2.1 rfl ?_
      obtain rfl := Option.some.inj hR
      refine xr_perm C 9 [0, 1, 2, 3, 4, 5, 6, 7] [8] [[(g, .inr (11, [.int gth, .ref gw, .ref gB, .ref gK, .ref gU, .ref gS, .int gbe, .int gwo, .long gta, .ref gn, .int glr, .int glc, .int gti, .int ggo, .ref gR, .int gch, .ref gD]))], [(gw, .inr (10, [.int gwr, .int gwk, .int gwc, .int gwg, .int gws, .ref gwa, .ref gwb]))], [(gwa, .inl (cy 3, gwan, .inr (.inr (.inr (.inr (yad gwad))))))], xg_rows gwad gwan (cy 1) gwak gwaG, [(gwb, .inl (cy 3, gwbn, .inr (.inr (.inr (.inr (yad gwbd))))))], xg_rows gwbd gwbn (cy 1) gwbk gwbG, [(gK, .inl (cy 4, 5, .inr (.inr (.inr (.inr (yad gKd))))))], xg_rows gKd 5 (cy 2) 5 gKG] rfl (by decide +kernel) rfl ?_
      exact ret (x_1.1 (0 : Int32).toNatClampNeg) ⟨rfl, rfl⟩ (Nat.le_of_ble_eq_true rfl) (Nat.le_of_ble_eq_true rfl) dd_X9_bestTold_2.2.2.2.2.2.2.2.2.2.2.2.2.2.2.2.1
    replace hR := yf_f c_44 hR
    by_cases c_46 : i1 = 2
    · replace hR := yf_t c_46 hR
      refine xr_tableIn (off := 54) (tgt := 109) C dX9_bestTold_55 (by rw [c_46]; decide) (by rw [c_46]; decide) (by rw [c_46]; decide) rfl ?_
      refine xr_aload_n (n := 110) (j := 4) C dd_X9_bestTold_3.1 rfl rfl ?_
      refine xr_iconst (n := 111) (v := 1) C dd_X9_bestTold_3.2.1 rfl rfl ?_
      obtain ⟨g_47, hR⟩ := yf_g hR
      refine xr_iald (n := 112) C 8 0 rfl rfl g_47 dd_X9_bestTold_3.2.2.1 rfl ?_
      obtain rfl := Option.some.inj hR
      refine xr_perm C 9 [0, 1, 2, 3, 4, 5, 6, 7] [8] [[(g, .inr (11, [.int gth, .ref gw, .ref gB, .ref gK, .ref gU, .ref gS, .int gbe, .int gwo, .long gta, .ref gn, .int glr, .int glc, .int gti, .int ggo, .ref gR, .int gch, .ref gD]))], [(gw, .inr (10, [.int gwr, .int gwk, .int gwc, .int gwg, .int gws, .ref gwa, .ref gwb]))], [(gwa, .inl (cy 3, gwan, .inr (.inr (.inr (.inr (yad gwad))))))], xg_rows gwad gwan (cy 1) gwak gwaG, [(gwb, .inl (cy 3, gwbn, .inr (.inr (.inr (.inr (yad gwbd))))))], xg_rows gwbd gwbn (cy 1) gwbk gwbG, [(gK, .inl (cy 4, 5, .inr (.inr (.inr (.inr (yad gKd))))))], xg_rows gKd 5 (cy 2) 5 gKG] rfl (by decide +kernel) rfl ?_
      exact ret (x_1.1 (1 : Int32).toNatClampNeg) ⟨rfl, rfl⟩ (Nat.le_of_ble_eq_true rfl) (Nat.le_of_ble_eq_true rfl) dd_X9_bestTold_3.2.2.2.1
    replace hR := yf_f c_46 hR
    by_cases c_48 : i1 = 3
    · replace hR := yf_t c_48 hR
      refine xr_tableIn (off := 58) (tgt := 113) C dX9_bestTold_55 (by rw [c_48]; decide) (by rw [c_48]; decide) (by rw [c_48]; decide) rfl ?_
      refine xr_iload (n := 115) (j := 1) C dd_X9_bestTold_3.2.2.2.2.1 rfl rfl ?_
      refine xr_iload (n := 117) (j := 0) C dd_X9_bestTold_3.2.2.2.2.2.1 rfl rfl ?_
      refine xr_imul (n := 118) C dd_X9_bestTold_3.2.2.2.2.2.2.1 rfl ?_
      obtain rfl := Option.some.inj hR
      refine xr_perm C 9 [0, 1, 2, 3, 4, 5, 6, 7] [8] [[(g, .inr (11, [.int gth, .ref gw, .ref gB, .ref gK, .ref gU, .ref gS, .int gbe, .int gwo, .long gta, .ref gn, .int glr, .int glc, .int gti, .int ggo, .ref gR, .int gch, .ref gD]))], [(gw, .inr (10, [.int gwr, .int gwk, .int gwc, .int gwg, .int gws, .ref gwa, .ref gwb]))], [(gwa, .inl (cy 3, gwan, .inr (.inr (.inr (.inr (yad gwad))))))], xg_rows gwad gwan (cy 1) gwak gwaG, [(gwb, .inl (cy 3, gwbn, .inr (.inr (.inr (.inr (yad gwbd))))))], xg_rows gwbd gwbn (cy 1) gwbk gwbG, [(gK, .inl (cy 4, 5, .inr (.inr (.inr (.inr (yad gKd))))))], xg_rows gKd 5 (cy 2) 5 gKG] rfl (by decide +kernel) rfl ?_
      exact ret (x_21 * x_29) ⟨rfl, rfl⟩ (Nat.le_of_ble_eq_true rfl) (Nat.le_of_ble_eq_true rfl) dd_X9_bestTold_3.2.2.2.2.2.2.2.1
    replace hR := yf_f c_48 hR
    refine xr_tableOut (tgt := 119) C dX9_bestTold_55 (ytab_out (fun k h1 h2 => by
      rcases (show k = 0 ∨ k = 1 ∨ k = 2 ∨ k = 3 by omega) with rfl | rfl | rfl | rfl
      · exact c_33
      · exact c_44
      · exact c_46
      · exact c_48)) rfl ?_
    refine xr_aload_n (n := 120) (j := 5) C dd_X9_bestTold_3.2.2.2.2.2.2.2.2.1 rfl rfl ?_
    refine xr_get (n := 123) C 0 rfl rfl 1 (by decide) in_X9 u_1238 rfl (v := .ref gw) rfl dd_X9_bestTold_3.2.2.2.2.2.2.2.2.2.1 rfl ?_
    obtain ⟨x_49, hx_49, hR⟩ := yf_b hR
    refine xr_callVp (n := 126) (As := []) (rest := []) C (kX8_steps l D cy (w := gw) (wr := gwr) (wk := gwk) (wc := gwc) (wg := gwg) (ws := gws) (wa := gwa) (wb := gwb) (wad := gwad) (wan := gwan) (wak := gwak) (waG := gwaG) (wbd := gwbd) (wbn := gwbn) (wbk := gwbk) (wbG := gwbG) hx_49) mX8_steps u_1355 u_1356 u_1357 1 rfl rfl 9 [1, 2, 3, 4, 5] [0, 6, 7, 8] rfl (by decide +kernel) rfl rfl rfl rfl (Nat.le_of_ble_eq_true rfl) (Nat.le_of_ble_eq_true rfl) (Nat.le_of_ble_eq_true rfl) (Nat.le_of_ble_eq_true rfl) (Nat.le_of_ble_eq_true rfl) dd_X9_bestTold_3.2.2.2.2.2.2.2.2.2.2.1 rfl (fun _ _ hp => hp.2) (fun v_50 hp_52 => ?_)
    obtain ⟨rfl, -⟩ := hp_52
    refine xr_st (st' := [.int x_49]) rfl ?_
    refine xr_aload_n (n := 127) (j := 5) C dd_X9_bestTold_3.2.2.2.2.2.2.2.2.2.2.2.1 rfl rfl ?_
    refine xr_get (n := 130) C 0 rfl rfl 1 (by decide) in_X9 u_1238 rfl (v := .ref gw) rfl dd_X9_bestTold_3.2.2.2.2.2.2.2.2.2.2.2.2.1 rfl ?_
    obtain ⟨x_53, hx_53, hR⟩ := yf_b hR
    refine xr_callVp (n := 133) (As := []) (rest := [.int x_49]) C (kX8_rows l D cy (w := gw) (wr := gwr) (wk := gwk) (wc := gwc) (wg := gwg) (ws := gws) (wa := gwa) (wb := gwb) hx_53) mX8_rows u_1380 u_1381 u_1382 1 rfl rfl 9 [1] [0, 2, 3, 4, 5, 6, 7, 8] rfl (by decide +kernel) rfl rfl rfl rfl (Nat.le_of_ble_eq_true rfl) (Nat.le_of_ble_eq_true rfl) (Nat.le_of_ble_eq_true rfl) (Nat.le_of_ble_eq_true rfl) (Nat.le_of_ble_eq_true rfl) dd_X9_bestTold_3.2.2.2.2.2.2.2.2.2.2.2.2.2.1 rfl (fun _ _ hp => hp.2) (fun v_54 hp_56 => ?_)
    obtain ⟨rfl, -⟩ := hp_56
    refine xr_st (st' := [.int x_53, .int x_49]) rfl ?_
    refine xr_iload (n := 135) (j := 0) C dd_X9_bestTold_3.2.2.2.2.2.2.2.2.2.2.2.2.2.2.1 rfl rfl ?_
    refine xr_imul (n := 136) C dd_X9_bestTold_3.2.2.2.2.2.2.2.2.2.2.2.2.2.2.2.1 rfl ?_
    refine xr_aload_n (n := 137) (j := 5) C dd_X9_bestTold_4.1 rfl rfl ?_
    refine xr_get (n := 140) C 0 rfl rfl 1 (by decide) in_X9 u_1238 rfl (v := .ref gw) rfl dd_X9_bestTold_4.2.1 rfl ?_
    obtain ⟨x_57, hx_57, hR⟩ := yf_b hR
    refine xr_callVp (n := 143) (As := []) (rest := [.int (x_53 * x_29), .int x_49]) C (kX8_columns l D cy (w := gw) (wr := gwr) (wk := gwk) (wc := gwc) (wg := gwg) (ws := gws) (wa := gwa) (wb := gwb) hx_57) mX8_columns u_1387 u_1388 u_1389 1 rfl rfl 9 [1] [0, 2, 3, 4, 5, 6, 7, 8] rfl (by decide +kernel) rfl rfl rfl rfl (Nat.le_of_ble_eq_true rfl) (Nat.le_of_ble_eq_true rfl) (Nat.le_of_ble_eq_true rfl) (Nat.le_of_ble_eq_true rfl) (Nat.le_of_ble_eq_true rfl) dd_X9_bestTold_4.2.2.1 rfl (fun _ _ hp => hp.2) (fun v_58 hp_60 => ?_)
    obtain ⟨rfl, -⟩ := hp_60
    refine xr_st (st' := [.int x_57, .int (x_53 * x_29), .int x_49]) rfl ?_
    refine xr_iload (n := 145) (j := 1) C dd_X9_bestTold_4.2.2.2.1 rfl rfl ?_
    refine xr_imul (n := 146) C dd_X9_bestTold_4.2.2.2.2.1 rfl ?_
    refine xr_iadd (n := 147) C dd_X9_bestTold_4.2.2.2.2.2.1 rfl ?_
    refine xr_imul (n := 148) C dd_X9_bestTold_4.2.2.2.2.2.2.1 rfl ?_
    obtain rfl := Option.some.inj hR
    refine xr_perm C 9 [0, 1, 2, 3, 4, 5, 6, 7] [8] [[(g, .inr (11, [.int gth, .ref gw, .ref gB, .ref gK, .ref gU, .ref gS, .int gbe, .int gwo, .long gta, .ref gn, .int glr, .int glc, .int gti, .int ggo, .ref gR, .int gch, .ref gD]))], [(gw, .inr (10, [.int gwr, .int gwk, .int gwc, .int gwg, .int gws, .ref gwa, .ref gwb]))], [(gwa, .inl (cy 3, gwan, .inr (.inr (.inr (.inr (yad gwad))))))], xg_rows gwad gwan (cy 1) gwak gwaG, [(gwb, .inl (cy 3, gwbn, .inr (.inr (.inr (.inr (yad gwbd))))))], xg_rows gwbd gwbn (cy 1) gwbk gwbG, [(gK, .inl (cy 4, 5, .inr (.inr (.inr (.inr (yad gKd))))))], xg_rows gKd 5 (cy 2) 5 gKG] rfl (by decide +kernel) rfl ?_
    exact ret (x_49 * ((x_53 * x_29) + (x_57 * x_21))) ⟨rfl, rfl⟩ (Nat.le_of_ble_eq_true rfl) (Nat.le_of_ble_eq_true rfl) dd_X9_bestTold_4.2.2.2.2.2.2.2.1
  · replace hR := yf_t c_6 hR
    refine xr_iconst (n := 11) (v := -1) C dd_X9_bestTold_0.2.2.2.2.2.2.1 rfl rfl ?_
    obtain rfl := Option.some.inj hR
    refine xr_perm C 9 [0, 1, 2, 3, 4, 5, 6, 7] [8] [[(g, .inr (11, [.int gth, .ref gw, .ref gB, .ref gK, .ref gU, .ref gS, .int gbe, .int gwo, .long gta, .ref gn, .int glr, .int glc, .int gti, .int ggo, .ref gR, .int gch, .ref gD]))], [(gw, .inr (10, [.int gwr, .int gwk, .int gwc, .int gwg, .int gws, .ref gwa, .ref gwb]))], [(gwa, .inl (cy 3, gwan, .inr (.inr (.inr (.inr (yad gwad))))))], xg_rows gwad gwan (cy 1) gwak gwaG, [(gwb, .inl (cy 3, gwbn, .inr (.inr (.inr (.inr (yad gwbd))))))], xg_rows gwbd gwbn (cy 1) gwbk gwbG, [(gK, .inl (cy 4, 5, .inr (.inr (.inr (.inr (yad gKd))))))], xg_rows gKd 5 (cy 2) 5 gKG] rfl (by decide +kernel) rfl ?_
    exact ret (-1) ⟨rfl, rfl⟩ (Nat.le_of_ble_eq_true rfl) (Nat.le_of_ble_eq_true rfl) dd_X9_bestTold_0.2.2.2.2.2.2.2.1
theorem dd_X9_best_0 : dk_R cX9_best [(0, .aload_n 0, 1), (1, .iload_n 1, 1), (2, .iconst 0, 1), (3, .iconst 4, 1), (4, .invokestatic 75, 3), (7, .ifCond .ne 7, 3), (10, .iconst 1, 1), (11, .goto 4, 3), (14, .iconst 0, 1), (15, .iconst 1, 1), (16, .invokevirtual 79, 3), (19, .ifCond .eq 7, 3), (22, .iconst 0, 1), (23, .goto 8, 3), (26, .aload_n 0, 1), (27, .iload_n 1, 1)] := dk_use _ _ (by decide +kernel)
theorem dd_X9_best_1 : dk_R cX9_best [(28, .invokevirtual 269, 3), (31, .ireturn, 1)] := dk_use _ _ (by decide +kernel)
def fX9_best_i (gwr : Int32) (gwk : Int32) (gwc : Int32) (gwg : Int32) (gws : Int32) (gwan : Nat) (gwak : Nat) (gwaG : Nat → Nat → Int32) (gwbn : Nat) (gwbk : Nat) (gwbG : Nat → Nat → Int32) (gKG : Nat → Nat → Int32) (i1 : Int32) : Option (Int32 × Int32) := ((fX9_isIn i1 0 4).bind fun x_1 => ((((if x_1 = 0 then some 1 else some 0) : Option (Int32))).bind fun r_6 => ((fX9_start_i r_6 1).bind fun x_7 => (if x_7.1 = 0 then ((fX9_bestTold_i gwr gwk gwc gwg gws gwan gwak gwaG gwbn gwbk gwbG gKG i1).bind fun x_12 => some (x_12, x_7.2)) else some (0, x_7.2)))))
abbrev hX9_best : Cond := .code yX9_best cX9_best 2 (some .int)
theorem mX9_best : yM yX9_best hX9_best 1 := ⟨u_1559, u_64, by decide +kernel, by decide +kernel, by decide +kernel⟩
set_option maxHeartbeats 4000000 in
set_option maxRecDepth 100000 in
theorem kX9_best_i (l : Launch) (D : va_G) (cy : Nat → ClassId) (g : Nat) (gth : Int32) (gw : Nat) (gB : Nat) (gK : Nat) (gU : Nat) (gS : Nat) (gbe : Int32) (gwo : Int32) (gta : Int64) (glr : Int32) (glc : Int32) (gti : Int32) (ggo : Int32) (gR : Nat) (gch : Int32) (gD : Nat) (gwr : Int32) (gwk : Int32) (gwc : Int32) (gwg : Int32) (gws : Int32) (gwa : Nat) (gwb : Nat) (gwad : Nat → Nat) (gwan : Nat) (gwak : Nat) (gwaG : Nat → Nat → Int32) (gwbd : Nat → Nat) (gwbn : Nat) (gwbk : Nat) (gwbG : Nat → Nat → Int32) (gKd : Nat → Nat) (gKG : Nat → Nat → Int32) (i1 : Int32) {res : Int32 × Int32} (hR : fX9_best_i gwr gwk gwc gwg gws gwan gwak gwaG gwbn gwbk gwbG gKG i1 = some res) : YM l D cy yX9_best hX9_best 6 30 60 [.ref g, .int i1] [[(g, .inr (11, [.int gth, .ref gw, .ref gB, .ref gK, .ref gU, .ref gS, .int gbe, .int gwo, .long gta, .null, .int glr, .int glc, .int gti, .int ggo, .ref gR, .int gch, .ref gD]))], [(gw, .inr (10, [.int gwr, .int gwk, .int gwc, .int gwg, .int gws, .ref gwa, .ref gwb]))], [(gwa, .inl (cy 3, gwan, .inr (.inr (.inr (.inr (yad gwad))))))], xg_rows gwad gwan (cy 1) gwak gwaG, [(gwb, .inl (cy 3, gwbn, .inr (.inr (.inr (.inr (yad gwbd))))))], xg_rows gwbd gwbn (cy 1) gwbk gwbG, [(gK, .inl (cy 4, 5, .inr (.inr (.inr (.inr (yad gKd))))))], xg_rows gKd 5 (cy 2) 5 gKG] (fun v u => v = some (.int res.1) ∧ u = [[(g, .inr (11, [.int res.2, .ref gw, .ref gB, .ref gK, .ref gU, .ref gS, .int gbe, .int gwo, .long gta, .null, .int glr, .int glc, .int gti, .int ggo, .ref gR, .int gch, .ref gD]))], [(gw, .inr (10, [.int gwr, .int gwk, .int gwc, .int gwg, .int gws, .ref gwa, .ref gwb]))], [(gwa, .inl (cy 3, gwan, .inr (.inr (.inr (.inr (yad gwad))))))], xg_rows gwad gwan (cy 1) gwak gwaG, [(gwb, .inl (cy 3, gwbn, .inr (.inr (.inr (.inr (yad gwbd))))))], xg_rows gwbd gwbn (cy 1) gwbk gwbG, [(gK, .inl (cy 4, 5, .inr (.inr (.inr (.inr (yad gKd))))))], xg_rows gKd 5 (cy 2) 5 gKG]) := by
  unfold fX9_best_i at hR
  refine YM.ofI (cc := cX9_best) (maxL := 2) (ret := (some .int)) (by decide +kernel) rfl (Nat.le_of_ble_eq_true rfl) [(0, .ref g), (1, .int i1)] rfl rfl (fun p e s m args below meth c A H0 Q C hnm ret => ?_)
  refine xr_aload_n (n := 1) (j := 0) C dd_X9_best_0.1 rfl rfl ?_
  refine xr_iload_n (n := 2) (j := 1) C dd_X9_best_0.2.1 rfl rfl ?_
  refine xr_iconst (n := 3) (v := 0) C dd_X9_best_0.2.2.1 rfl rfl ?_
  refine xr_iconst (n := 4) (v := 4) C dd_X9_best_0.2.2.2.1 rfl rfl ?_
  obtain ⟨x_1, hx_1, hR⟩ := yf_b hR
  refine xr_callSp (n := 7) (As := [.int i1, .int 0, .int 4]) (rest := [.ref g]) C (kX9_isIn l D cy (i1 := i1) (i2 := 0) (i3 := 4) hx_1) mX9_isIn u_1294 u_1295 8 [] [0, 1, 2, 3, 4, 5, 6, 7] rfl (by decide +kernel) rfl rfl rfl rfl (Nat.le_of_ble_eq_true rfl) (Nat.le_of_ble_eq_true rfl) (Nat.le_of_ble_eq_true rfl) (Nat.le_of_ble_eq_true rfl) (Nat.le_of_ble_eq_true rfl) dd_X9_best_0.2.2.2.2.1 rfl (fun _ _ hp => hp.2) (fun v_2 hp_4 => ?_)
  obtain ⟨rfl, -⟩ := hp_4
  refine xr_st (st' := [.int x_1, .ref g]) rfl ?_
  obtain ⟨r_6, hE_6, hR⟩ := yf_b hR
  have J_6 : X p l e (yR 6 30 60) s m args below meth c D A H0 2 Q [[(g, .inr (11, [.int gth, .ref gw, .ref gB, .ref gK, .ref gU, .ref gS, .int gbe, .int gwo, .long gta, .null, .int glr, .int glc, .int gti, .int ggo, .ref gR, .int gch, .ref gD]))], [(gw, .inr (10, [.int gwr, .int gwk, .int gwc, .int gwg, .int gws, .ref gwa, .ref gwb]))], [(gwa, .inl (cy 3, gwan, .inr (.inr (.inr (.inr (yad gwad))))))], xg_rows gwad gwan (cy 1) gwak gwaG, [(gwb, .inl (cy 3, gwbn, .inr (.inr (.inr (.inr (yad gwbd))))))], xg_rows gwbd gwbn (cy 1) gwbk gwbG, [(gK, .inl (cy 4, 5, .inr (.inr (.inr (.inr (yad gKd))))))], xg_rows gKd 5 (cy 2) 5 gKG] 0 0 [(0, .ref g), (1, .int i1)] 15 [.int r_6, .ref g] := by
    refine xr_iconst (n := 16) (v := 1) C dd_X9_best_0.2.2.2.2.2.2.2.2.2.1 rfl rfl ?_
    obtain ⟨x_7, hx_7, hR⟩ := yf_b hR
    refine xr_callV (n := 19) (As := [.int r_6, .int 1]) (rest := []) C (kX9_start_i l D cy (g := g) (gth := gth) (gw := gw) (gB := gB) (gK := gK) (gU := gU) (gS := gS) (gbe := gbe) (gwo := gwo) (gta := gta) (glr := glr) (glc := glc) (gti := gti) (ggo := ggo) (gR := gR) (gch := gch) (gD := gD) (i1 := r_6) (i2 := 1) hx_7) mX9_start u_1297 u_1299 u_29 0 rfl rfl 8 [0] [1, 2, 3, 4, 5, 6, 7] rfl (by decide +kernel) rfl rfl rfl rfl (Nat.le_of_ble_eq_true rfl) (Nat.le_of_ble_eq_true rfl) (Nat.le_of_ble_eq_true rfl) (Nat.le_of_ble_eq_true rfl) (Nat.le_of_ble_eq_true rfl) dd_X9_best_0.2.2.2.2.2.2.2.2.2.2.1 rfl (fun v_8 u_9 hp_10 => ?_)
    obtain ⟨rfl, rfl⟩ := hp_10
    refine xr_perm C 8 [0, 1, 2, 3, 4, 5, 6, 7] [] [[(g, .inr (11, [.int x_7.2, .ref gw, .ref gB, .ref gK, .ref gU, .ref gS, .int gbe, .int gwo, .long gta, .null, .int glr, .int glc, .int gti, .int ggo, .ref gR, .int gch, .ref gD]))], [(gw, .inr (10, [.int gwr, .int gwk, .int gwc, .int gwg, .int gws, .ref gwa, .ref gwb]))], [(gwa, .inl (cy 3, gwan, .inr (.inr (.inr (.inr (yad gwad))))))], xg_rows gwad gwan (cy 1) gwak gwaG, [(gwb, .inl (cy 3, gwbn, .inr (.inr (.inr (.inr (yad gwbd))))))], xg_rows gwbd gwbn (cy 1) gwbk gwbG, [(gK, .inl (cy 4, 5, .inr (.inr (.inr (.inr (yad gKd))))))], xg_rows gKd 5 (cy 2) 5 gKG] rfl (by decide +kernel) rfl ?_
    refine xr_st (st' := [.int x_7.1]) rfl ?_
    refine xr_if_eq (tgt := 26) (n := 22) C dd_X9_best_0.2.2.2.2.2.2.2.2.2.2.2.1 rfl rfl (fun c_11 => ?_) (fun c_11 => ?_)
    · replace hR := yf_t c_11 hR
      refine xr_aload_n (n := 27) (j := 0) C dd_X9_best_0.2.2.2.2.2.2.2.2.2.2.2.2.2.2.1 rfl rfl ?_
      refine xr_iload_n (n := 28) (j := 1) C dd_X9_best_0.2.2.2.2.2.2.2.2.2.2.2.2.2.2.2.1 rfl rfl ?_
      obtain ⟨x_12, hx_12, hR⟩ := yf_b hR
      refine xr_callVp (n := 31) (As := [.int i1]) (rest := []) C (kX9_bestTold_i l D cy (g := g) (gth := x_7.2) (gw := gw) (gB := gB) (gK := gK) (gU := gU) (gS := gS) (gbe := gbe) (gwo := gwo) (gta := gta) (glr := glr) (glc := glc) (gti := gti) (ggo := ggo) (gR := gR) (gch := gch) (gD := gD) (gwr := gwr) (gwk := gwk) (gwc := gwc) (gwg := gwg) (gws := gws) (gwa := gwa) (gwb := gwb) (gwad := gwad) (gwan := gwan) (gwak := gwak) (gwaG := gwaG) (gwbd := gwbd) (gwbn := gwbn) (gwbk := gwbk) (gwbG := gwbG) (gKd := gKd) (gKG := gKG) (i1 := i1) hx_12) mX9_bestTold u_1560 u_1562 u_52 0 rfl rfl 8 [0, 1, 2, 3, 4, 5, 6, 7] [] rfl (by decide +kernel) rfl rfl rfl rfl (Nat.le_of_ble_eq_true rfl) (Nat.le_of_ble_eq_true rfl) (Nat.le_of_ble_eq_true rfl) (Nat.le_of_ble_eq_true rfl) (Nat.le_of_ble_eq_true rfl) dd_X9_best_1.1 rfl (fun _ _ hp => hp.2) (fun v_13 hp_15 => ?_)
      obtain ⟨rfl, -⟩ := hp_15
      refine xr_st (st' := [.int x_12]) rfl ?_
      obtain rfl := Option.some.inj hR
      exact ret x_12 ⟨rfl, rfl⟩ (Nat.le_of_ble_eq_true rfl) (Nat.le_of_ble_eq_true rfl) dd_X9_best_1.2.1
    · replace hR := yf_f c_11 hR
      refine xr_iconst (n := 23) (v := 0) C dd_X9_best_0.2.2.2.2.2.2.2.2.2.2.2.2.1 rfl rfl ?_
      refine xr_goto (tgt := 31) C dd_X9_best_0.2.2.2.2.2.2.2.2.2.2.2.2.2.1 rfl ?_
      obtain rfl := Option.some.inj hR
      exact ret 0 ⟨rfl, rfl⟩ (Nat.le_of_ble_eq_true rfl) (Nat.le_of_ble_eq_true rfl) dd_X9_best_1.2.1
  refine xr_if_ne (tgt := 14) (n := 10) C dd_X9_best_0.2.2.2.2.2.1 rfl rfl (fun c_16 => ?_) (fun c_16 => ?_)
  · replace hE_6 := yf_f c_16 hE_6
    refine xr_iconst (n := 15) (v := 0) C dd_X9_best_0.2.2.2.2.2.2.2.2.1 rfl rfl ?_
    have e_17 := Option.some.inj hE_6
    subst e_17
    exact J_6
  · replace hE_6 := yf_t c_16 hE_6
    refine xr_iconst (n := 11) (v := 1) C dd_X9_best_0.2.2.2.2.2.2.1 rfl rfl ?_
    refine xr_goto (tgt := 15) C dd_X9_best_0.2.2.2.2.2.2.2.1 rfl ?_
    have e_18 := Option.some.inj hE_6
    subst e_18
    exact J_6
def fX9_best_r (gwr : Int32) (gwk : Int32) (gwc : Int32) (gwg : Int32) (gws : Int32) (gwan : Nat) (gwak : Nat) (gwaG : Nat → Nat → Int32) (gwbn : Nat) (gwbk : Nat) (gwbG : Nat → Nat → Int32) (gKG : Nat → Nat → Int32) (i1 : Int32) : Option (Int32 × Int32) := ((fX9_isIn i1 0 4).bind fun x_1 => ((((if x_1 = 0 then some 1 else some 0) : Option (Int32))).bind fun r_6 => ((fX9_start_r r_6 1).bind fun x_7 => (if x_7.1 = 0 then ((fX9_bestTold_r gwr gwk gwc gwg gws gwan gwak gwaG gwbn gwbk gwbG gKG i1).bind fun x_12 => some (x_12, x_7.2)) else some (0, x_7.2)))))
set_option maxHeartbeats 4000000 in
set_option maxRecDepth 100000 in
theorem kX9_best_r (l : Launch) (D : va_G) (cy : Nat → ClassId) (g : Nat) (gth : Int32) (gw : Nat) (gB : Nat) (gK : Nat) (gU : Nat) (gS : Nat) (gbe : Int32) (gwo : Int32) (gta : Int64) (gn : Nat) (glr : Int32) (glc : Int32) (gti : Int32) (ggo : Int32) (gR : Nat) (gch : Int32) (gD : Nat) (gwr : Int32) (gwk : Int32) (gwc : Int32) (gwg : Int32) (gws : Int32) (gwa : Nat) (gwb : Nat) (gwad : Nat → Nat) (gwan : Nat) (gwak : Nat) (gwaG : Nat → Nat → Int32) (gwbd : Nat → Nat) (gwbn : Nat) (gwbk : Nat) (gwbG : Nat → Nat → Int32) (gKd : Nat → Nat) (gKG : Nat → Nat → Int32) (i1 : Int32) {res : Int32 × Int32} (hR : fX9_best_r gwr gwk gwc gwg gws gwan gwak gwaG gwbn gwbk gwbG gKG i1 = some res) : YM l D cy yX9_best hX9_best 6 30 60 [.ref g, .int i1] [[(g, .inr (11, [.int gth, .ref gw, .ref gB, .ref gK, .ref gU, .ref gS, .int gbe, .int gwo, .long gta, .ref gn, .int glr, .int glc, .int gti, .int ggo, .ref gR, .int gch, .ref gD]))], [(gw, .inr (10, [.int gwr, .int gwk, .int gwc, .int gwg, .int gws, .ref gwa, .ref gwb]))], [(gwa, .inl (cy 3, gwan, .inr (.inr (.inr (.inr (yad gwad))))))], xg_rows gwad gwan (cy 1) gwak gwaG, [(gwb, .inl (cy 3, gwbn, .inr (.inr (.inr (.inr (yad gwbd))))))], xg_rows gwbd gwbn (cy 1) gwbk gwbG, [(gK, .inl (cy 4, 5, .inr (.inr (.inr (.inr (yad gKd))))))], xg_rows gKd 5 (cy 2) 5 gKG] (fun v u => v = some (.int res.1) ∧ u = [[(g, .inr (11, [.int res.2, .ref gw, .ref gB, .ref gK, .ref gU, .ref gS, .int gbe, .int gwo, .long gta, .ref gn, .int glr, .int glc, .int gti, .int ggo, .ref gR, .int gch, .ref gD]))], [(gw, .inr (10, [.int gwr, .int gwk, .int gwc, .int gwg, .int gws, .ref gwa, .ref gwb]))], [(gwa, .inl (cy 3, gwan, .inr (.inr (.inr (.inr (yad gwad))))))], xg_rows gwad gwan (cy 1) gwak gwaG, [(gwb, .inl (cy 3, gwbn, .inr (.inr (.inr (.inr (yad gwbd))))))], xg_rows gwbd gwbn (cy 1) gwbk gwbG, [(gK, .inl (cy 4, 5, .inr (.inr (.inr (.inr (yad gKd))))))], xg_rows gKd 5 (cy 2) 5 gKG]) := by
  unfold fX9_best_r at hR
  refine YM.ofI (cc := cX9_best) (maxL := 2) (ret := (some .int)) (by decide +kernel) rfl (Nat.le_of_ble_eq_true rfl) [(0, .ref g), (1, .int i1)] rfl rfl (fun p e s m args below meth c A H0 Q C hnm ret => ?_)
  refine xr_aload_n (n := 1) (j := 0) C dd_X9_best_0.1 rfl rfl ?_
  refine xr_iload_n (n := 2) (j := 1) C dd_X9_best_0.2.1 rfl rfl ?_
  refine xr_iconst (n := 3) (v := 0) C dd_X9_best_0.2.2.1 rfl rfl ?_
  refine xr_iconst (n := 4) (v := 4) C dd_X9_best_0.2.2.2.1 rfl rfl ?_
  obtain ⟨x_1, hx_1, hR⟩ := yf_b hR
  refine xr_callSp (n := 7) (As := [.int i1, .int 0, .int 4]) (rest := [.ref g]) C (kX9_isIn l D cy (i1 := i1) (i2 := 0) (i3 := 4) hx_1) mX9_isIn u_1294 u_1295 8 [] [0, 1, 2, 3, 4, 5, 6, 7] rfl (by decide +kernel) rfl rfl rfl rfl (Nat.le_of_ble_eq_true rfl) (Nat.le_of_ble_eq_true rfl) (Nat.le_of_ble_eq_true rfl) (Nat.le_of_ble_eq_true rfl) (Nat.le_of_ble_eq_true rfl) dd_X9_best_0.2.2.2.2.1 rfl (fun _ _ hp => hp.2) (fun v_2 hp_4 => ?_)
  obtain ⟨rfl, -⟩ := hp_4
  refine xr_st (st' := [.int x_1, .ref g]) rfl ?_
  obtain ⟨r_6, hE_6, hR⟩ := yf_b hR
  have J_6 : X p l e (yR 6 30 60) s m args below meth c D A H0 2 Q [[(g, .inr (11, [.int gth, .ref gw, .ref gB, .ref gK, .ref gU, .ref gS, .int gbe, .int gwo, .long gta, .ref gn, .int glr, .int glc, .int gti, .int ggo, .ref gR, .int gch, .ref gD]))], [(gw, .inr (10, [.int gwr, .int gwk, .int gwc, .int gwg, .int gws, .ref gwa, .ref gwb]))], [(gwa, .inl (cy 3, gwan, .inr (.inr (.inr (.inr (yad gwad))))))], xg_rows gwad gwan (cy 1) gwak gwaG, [(gwb, .inl (cy 3, gwbn, .inr (.inr (.inr (.inr (yad gwbd))))))], xg_rows gwbd gwbn (cy 1) gwbk gwbG, [(gK, .inl (cy 4, 5, .inr (.inr (.inr (.inr (yad gKd))))))], xg_rows gKd 5 (cy 2) 5 gKG] 0 0 [(0, .ref g), (1, .int i1)] 15 [.int r_6, .ref g] := by
    refine xr_iconst (n := 16) (v := 1) C dd_X9_best_0.2.2.2.2.2.2.2.2.2.1 rfl rfl ?_
    obtain ⟨x_7, hx_7, hR⟩ := yf_b hR
    refine xr_callV (n := 19) (As := [.int r_6, .int 1]) (rest := []) C (kX9_start_r l D cy (g := g) (gth := gth) (gw := gw) (gB := gB) (gK := gK) (gU := gU) (gS := gS) (gbe := gbe) (gwo := gwo) (gta := gta) (gn := gn) (glr := glr) (glc := glc) (gti := gti) (ggo := ggo) (gR := gR) (gch := gch) (gD := gD) (i1 := r_6) (i2 := 1) hx_7) mX9_start u_1297 u_1299 u_29 0 rfl rfl 8 [0] [1, 2, 3, 4, 5, 6, 7] rfl (by decide +kernel) rfl rfl rfl rfl (Nat.le_of_ble_eq_true rfl) (Nat.le_of_ble_eq_true rfl) (Nat.le_of_ble_eq_true rfl) (Nat.le_of_ble_eq_true rfl) (Nat.le_of_ble_eq_true rfl) dd_X9_best_0.2.2.2.2.2.2.2.2.2.2.1 rfl (fun v_8 u_9 hp_10 => ?_)
    obtain ⟨rfl, rfl⟩ := hp_10
    refine xr_perm C 8 [0, 1, 2, 3, 4, 5, 6, 7] [] [[(g, .inr (11, [.int x_7.2, .ref gw, .ref gB, .ref gK, .ref gU, .ref gS, .int gbe, .int gwo, .long gta, .ref gn, .int glr, .int glc, .int gti, .int ggo, .ref gR, .int gch, .ref gD]))], [(gw, .inr (10, [.int gwr, .int gwk, .int gwc, .int gwg, .int gws, .ref gwa, .ref gwb]))], [(gwa, .inl (cy 3, gwan, .inr (.inr (.inr (.inr (yad gwad))))))], xg_rows gwad gwan (cy 1) gwak gwaG, [(gwb, .inl (cy 3, gwbn, .inr (.inr (.inr (.inr (yad gwbd))))))], xg_rows gwbd gwbn (cy 1) gwbk gwbG, [(gK, .inl (cy 4, 5, .inr (.inr (.inr (.inr (yad gKd))))))], xg_rows gKd 5 (cy 2) 5 gKG] rfl (by decide +kernel) rfl ?_
    refine xr_st (st' := [.int x_7.1]) rfl ?_
    refine xr_if_eq (tgt := 26) (n := 22) C dd_X9_best_0.2.2.2.2.2.2.2.2.2.2.2.1 rfl rfl (fun c_11 => ?_) (fun c_11 => ?_)
    · replace hR := yf_t c_11 hR
      refine xr_aload_n (n := 27) (j := 0) C dd_X9_best_0.2.2.2.2.2.2.2.2.2.2.2.2.2.2.1 rfl rfl ?_
      refine xr_iload_n (n := 28) (j := 1) C dd_X9_best_0.2.2.2.2.2.2.2.2.2.2.2.2.2.2.2.1 rfl rfl ?_
      obtain ⟨x_12, hx_12, hR⟩ := yf_b hR
      refine xr_callVp (n := 31) (As := [.int i1]) (rest := []) C (kX9_bestTold_r l D cy (g := g) (gth := x_7.2) (gw := gw) (gB := gB) (gK := gK) (gU := gU) (gS := gS) (gbe := gbe) (gwo := gwo) (gta := gta) (gn := gn) (glr := glr) (glc := glc) (gti := gti) (ggo := ggo) (gR := gR) (gch := gch) (gD := gD) (gwr := gwr) (gwk := gwk) (gwc := gwc) (gwg := gwg) (gws := gws) (gwa := gwa) (gwb := gwb) (gwad := gwad) (gwan := gwan) (gwak := gwak) (gwaG := gwaG) (gwbd := gwbd) (gwbn := gwbn) (gwbk := gwbk) (gwbG := gwbG) (gKd := gKd) (gKG := gKG) (i1 := i1) hx_12) mX9_bestTold u_1560 u_1562 u_52 0 rfl rfl 8 [0, 1, 2, 3, 4, 5, 6, 7] [] rfl (by decide +kernel) rfl rfl rfl rfl (Nat.le_of_ble_eq_true rfl) (Nat.le_of_ble_eq_true rfl) (Nat.le_of_ble_eq_true rfl) (Nat.le_of_ble_eq_true rfl) (Nat.le_of_ble_eq_true rfl) dd_X9_best_1.1 rfl (fun _ _ hp => hp.2) (fun v_13 hp_15 => ?_)
      obtain ⟨rfl, -⟩ := hp_15
      refine xr_st (st' := [.int x_12]) rfl ?_
      obtain rfl := Option.some.inj hR
      exact ret x_12 ⟨rfl, rfl⟩ (Nat.le_of_ble_eq_true rfl) (Nat.le_of_ble_eq_true rfl) dd_X9_best_1.2.1
    · replace hR := yf_f c_11 hR
      refine xr_iconst (n := 23) (v := 0) C dd_X9_best_0.2.2.2.2.2.2.2.2.2.2.2.2.1 rfl rfl ?_
      refine xr_goto (tgt := 31) C dd_X9_best_0.2.2.2.2.2.2.2.2.2.2.2.2.2.1 rfl ?_
      obtain rfl := Option.some.inj hR
      exact ret 0 ⟨rfl, rfl⟩ (Nat.le_of_ble_eq_true rfl) (Nat.le_of_ble_eq_true rfl) dd_X9_best_1.2.1
  refine xr_if_ne (tgt := 14) (n := 10) C dd_X9_best_0.2.2.2.2.2.1 rfl rfl (fun c_16 => ?_) (fun c_16 => ?_)
  · replace hE_6 := yf_f c_16 hE_6
    refine xr_iconst (n := 15) (v := 0) C dd_X9_best_0.2.2.2.2.2.2.2.2.1 rfl rfl ?_
    have e_17 := Option.some.inj hE_6
    subst e_17
    exact J_6
  · replace hE_6 := yf_t c_16 hE_6
    refine xr_iconst (n := 11) (v := 1) C dd_X9_best_0.2.2.2.2.2.2.1 rfl rfl ?_
    refine xr_goto (tgt := 15) C dd_X9_best_0.2.2.2.2.2.2.2.1 rfl ?_
    have e_18 := Option.some.inj hE_6
    subst e_18
    exact J_6
