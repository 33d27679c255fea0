theorem u_1207 : Cond.fieldLink RX9 86 "PulsemeshModel$Work" "kind" "I" ∈ yU := yu_tables_1_5 191 (by decide +kernel) (by decide +kernel)
theorem u_1209 : Cond.fieldLink RX9 89 "PulsemeshModel$Work" "isChecked" "Z" ∈ yU := yu_tables_1_5 193 (by decide +kernel) (by decide +kernel)
theorem u_1326 : Cond.code yX9_kind cX9_kind 3 (some .int) ∈ yU := yu_tables_1_6 70 (by decide +kernel) (by decide +kernel)
theorem u_1330 : Cond.code yX9_checked cX9_checked 3 (some .boolean) ∈ yU := yu_tables_1_6 74 (by decide +kernel) (by decide +kernel)
theorem u_1377 : Cond.methodLink RX9 93 yX9_has ∈ yU := yu_tables_1_6 121 (by decide +kernel) (by decide +kernel)
theorem u_1378 : Cond.static yX9_has ∈ yU := yu_tables_1_6 122 (by decide +kernel) (by decide +kernel)
theorem u_1240 : Cond.fieldLink RX9 27 "PulsemeshModel" "areKnown" "[[Z" ∈ yU := yu_tables_1_5 224 (by decide +kernel) (by decide +kernel)
theorem u_1376 : Cond.code yX9_crosses cX9_crosses 5 (some .boolean) ∈ yU := yu_tables_1_6 120 (by decide +kernel) (by decide +kernel)
theorem dd_X9_kind_0 : dk_R cX9_kind [(0, .aload_n 0, 1), (1, .iload_n 1, 1), (2, .iconst 0, 1), (3, .iconst 2, 1), (4, .invokestatic 75, 3), (7, .ifCond .ne 7, 3), (10, .iconst 1, 1), (11, .goto 4, 3), (14, .iconst 0, 1), (15, .iconst 1, 1), (16, .invokevirtual 79, 3), (19, .ifCond .eq 5, 3), (22, .iconst 0, 1), (23, .ireturn, 1), (24, .aload_n 0, 1), (25, .getfield 16, 3)] := dk_use _ _ (by decide +kernel)
theorem dd_X9_kind_1 : dk_R cX9_kind [(28, .getfield 86, 3), (31, .istore_n 2, 1), (32, .aload_n 0, 1), (33, .getfield 16, 3), (36, .iload_n 1, 1), (37, .putfield 86, 3), (40, .aload_n 0, 1), (41, .getfield 16, 3), (44, .dup, 1), (45, .getfield 89, 3), (48, .iload_n 1, 1), (49, .ifCond .ne 7, 3), (52, .iconst 1, 1), (53, .goto 4, 3), (56, .iconst 0, 1), (57, .iand, 1)] := dk_use _ _ (by decide +kernel)
theorem dd_X9_kind_2 : dk_R cX9_kind [(58, .putfield 89, 3), (61, .iload_n 2, 1), (62, .ireturn, 1)] := dk_use _ _ (by decide +kernel)
def fX9_kind_i (gwg : Int32) (gws : Int32) (i1 : Int32) : Option (Int32 × Int32 × Int32 × Int32) := ((fX9_isIn i1 0 2).bind fun x_1 => ((((if x_1 = 0 then some 1 else some 0) : Option (Int32))).bind fun r_6 => ((fX9_start_i r_6 1).bind fun x_7 => (if x_7.1 = 0 then ((((if i1 = 0 then some 1 else some 0) : Option (Int32))).bind fun r_13 => (if (gws &&& r_13) = 0 ∨ (gws &&& r_13) = 1 then some (gwg, x_7.2, i1, gws &&& r_13) else none)) else some (0, x_7.2, gwg, gws)))))
abbrev hX9_kind : Cond := .code yX9_kind cX9_kind 3 (some .int)
theorem mX9_kind : yM yX9_kind hX9_kind 1 := ⟨u_1326, u_64, by decide +kernel, by decide +kernel, by decide +kernel⟩
set_option maxHeartbeats 4000000 in
set_option maxRecDepth 100000 in
theorem kX9_kind_i (l : Launch) (D : va_G) (cy : Nat → ClassId) (g : Nat) (gth : Int32) (gw : Nat) (gB : Nat) (gK : Nat) (gU : Nat) (gS : Nat) (gbe : Int32) (gwo : Int32) (gta : Int64) (glr : Int32) (glc : Int32) (gti : Int32) (ggo : Int32) (gR : Nat) (gch : Int32) (gD : Nat) (gwr : Int32) (gwk : Int32) (gwc : Int32) (gwg : Int32) (gws : Int32) (gwa : Nat) (gwb : Nat) (i1 : Int32) {res : Int32 × Int32 × Int32 × Int32} (hR : fX9_kind_i gwg gws i1 = some res) : YM l D cy yX9_kind hX9_kind 3 0 0 [.ref g, .int i1] [[(g, .inr (11, [.int gth, .ref gw, .ref gB, .ref gK, .ref gU, .ref gS, .int gbe, .int gwo, .long gta, .null, .int glr, .int glc, .int gti, .int ggo, .ref gR, .int gch, .ref gD]))], [(gw, .inr (10, [.int gwr, .int gwk, .int gwc, .int gwg, .int gws, .ref gwa, .ref gwb]))]] (fun v u => v = some (.int res.1) ∧ u = [[(g, .inr (11, [.int res.2.1, .ref gw, .ref gB, .ref gK, .ref gU, .ref gS, .int gbe, .int gwo, .long gta, .null, .int glr, .int glc, .int gti, .int ggo, .ref gR, .int gch, .ref gD]))], [(gw, .inr (10, [.int gwr, .int gwk, .int gwc, .int res.2.2.1, .int res.2.2.2, .ref gwa, .ref gwb]))]]) := by
  unfold fX9_kind_i at hR
  refine YM.ofI (cc := cX9_kind) (maxL := 3) (ret := (some .int)) (by decide +kernel) rfl (Nat.le_of_ble_eq_true rfl) [(0, .ref g), (1, .int i1)] rfl rfl (fun p e s m args below meth c A H0 Q C hnm ret => ?_)
  refine xr_aload_n (n := 1) (j := 0) C dd_X9_kind_0.1 rfl rfl ?_
  refine xr_iload_n (n := 2) (j := 1) C dd_X9_kind_0.2.1 rfl rfl ?_
  refine xr_iconst (n := 3) (v := 0) C dd_X9_kind_0.2.2.1 rfl rfl ?_
  refine xr_iconst (n := 4) (v := 2) C dd_X9_kind_0.2.2.2.1 rfl rfl ?_
  obtain ⟨x_1, hx_1, hR⟩ := yf_b hR
  refine xr_callSp (n := 7) (As := [.int i1, .int 0, .int 2]) (rest := [.ref g]) C (kX9_isIn l D cy (i1 := i1) (i2 := 0) (i3 := 2) hx_1) mX9_isIn u_1298 u_1299 2 [] [0, 1] rfl (by decide +kernel) rfl rfl rfl rfl (Nat.le_of_ble_eq_true rfl) (Nat.le_of_ble_eq_true rfl) (Nat.le_of_ble_eq_true rfl) (Nat.le_of_ble_eq_true rfl) (Nat.le_of_ble_eq_true rfl) dd_X9_kind_0.2.2.2.2.1 rfl (fun _ _ hp => hp.2) (fun v_2 hp_4 => ?_)
  obtain ⟨rfl, -⟩ := hp_4
  refine xr_st (st' := [.int x_1, .ref g]) rfl ?_
  obtain ⟨r_6, hE_6, hR⟩ := yf_b hR
  have J_6 : X p l e (yR 3 0 0) s m args below meth c D A H0 3 Q [[(g, .inr (11, [.int gth, .ref gw, .ref gB, .ref gK, .ref gU, .ref gS, .int gbe, .int gwo, .long gta, .null, .int glr, .int glc, .int gti, .int ggo, .ref gR, .int gch, .ref gD]))], [(gw, .inr (10, [.int gwr, .int gwk, .int gwc, .int gwg, .int gws, .ref gwa, .ref gwb]))]] 0 0 [(0, .ref g), (1, .int i1)] 15 [.int r_6, .ref g] := by
    refine xr_iconst (n := 16) (v := 1) C dd_X9_kind_0.2.2.2.2.2.2.2.2.2.1 rfl rfl ?_
    obtain ⟨x_7, hx_7, hR⟩ := yf_b hR
    refine xr_callV (n := 19) (As := [.int r_6, .int 1]) (rest := []) C (kX9_start_i l D cy (g := g) (gth := gth) (gw := gw) (gB := gB) (gK := gK) (gU := gU) (gS := gS) (gbe := gbe) (gwo := gwo) (gta := gta) (glr := glr) (glc := glc) (gti := gti) (ggo := ggo) (gR := gR) (gch := gch) (gD := gD) (i1 := r_6) (i2 := 1) hx_7) mX9_start u_1301 u_1303 u_29 0 rfl rfl 2 [0] [1] rfl (by decide +kernel) rfl rfl rfl rfl (Nat.le_of_ble_eq_true rfl) (Nat.le_of_ble_eq_true rfl) (Nat.le_of_ble_eq_true rfl) (Nat.le_of_ble_eq_true rfl) (Nat.le_of_ble_eq_true rfl) dd_X9_kind_0.2.2.2.2.2.2.2.2.2.2.1 rfl (fun v_8 u_9 hp_10 => ?_)
    obtain ⟨rfl, rfl⟩ := hp_10
    refine xr_perm C 2 [0, 1] [] [[(g, .inr (11, [.int x_7.2, .ref gw, .ref gB, .ref gK, .ref gU, .ref gS, .int gbe, .int gwo, .long gta, .null, .int glr, .int glc, .int gti, .int ggo, .ref gR, .int gch, .ref gD]))], [(gw, .inr (10, [.int gwr, .int gwk, .int gwc, .int gwg, .int gws, .ref gwa, .ref gwb]))]] rfl (by decide +kernel) rfl ?_
    refine xr_st (st' := [.int x_7.1]) rfl ?_
    refine xr_if_eq (tgt := 24) (n := 22) C dd_X9_kind_0.2.2.2.2.2.2.2.2.2.2.2.1 rfl rfl (fun c_11 => ?_) (fun c_11 => ?_)
    · replace hR := yf_t c_11 hR
      refine xr_aload_n (n := 25) (j := 0) C dd_X9_kind_0.2.2.2.2.2.2.2.2.2.2.2.2.2.2.1 rfl rfl ?_
      refine xr_get (n := 28) C 0 rfl rfl 1 (by decide) in_X9 u_1238 rfl (v := .ref gw) rfl dd_X9_kind_0.2.2.2.2.2.2.2.2.2.2.2.2.2.2.2.1 rfl ?_
      refine xr_get (n := 31) C 1 rfl rfl 3 (by decide) in_X8 u_1207 rfl (v := .int gwg) rfl dd_X9_kind_1.1 rfl ?_
      refine xr_istore_n (n := 32) C [(2, .int gwg), (0, .ref g), (1, .int i1)] dd_X9_kind_1.2.1 (by decide) rfl rfl ?_
      refine xr_aload_n (n := 33) (j := 1) C dd_X9_kind_1.2.2.1 rfl rfl ?_
      refine xr_get (n := 36) C 0 rfl rfl 1 (by decide) in_X9 u_1238 rfl (v := .ref gw) rfl dd_X9_kind_1.2.2.2.1 rfl ?_
      refine xr_iload_n (n := 37) (j := 2) C dd_X9_kind_1.2.2.2.2.1 rfl rfl ?_
      refine xr_put (n := 40) C 1 rfl rfl 3 (by decide) in_X8 tyX8 tyX8_ok nmX8 u_1207 rfl rfl rfl rfl (Nat.le_of_ble_eq_true rfl) [[(g, .inr (11, [.int x_7.2, .ref gw, .ref gB, .ref gK, .ref gU, .ref gS, .int gbe, .int gwo, .long gta, .null, .int glr, .int glc, .int gti, .int ggo, .ref gR, .int gch, .ref gD]))], [(gw, .inr (10, [.int gwr, .int gwk, .int gwc, .int i1, .int gws, .ref gwa, .ref gwb]))]] rfl rfl dd_X9_kind_1.2.2.2.2.2.1 ?_
      refine xr_aload_n (n := 41) (j := 1) C dd_X9_kind_1.2.2.2.2.2.2.1 rfl rfl ?_
      refine xr_get (n := 44) C 0 rfl rfl 1 (by decide) in_X9 u_1238 rfl (v := .ref gw) rfl dd_X9_kind_1.2.2.2.2.2.2.2.1 rfl ?_
      refine xr_dup (n := 45) C dd_X9_kind_1.2.2.2.2.2.2.2.2.1 rfl rfl ?_
      refine xr_get (n := 48) C 1 rfl rfl 4 (by decide) in_X8 u_1209 rfl (v := .int gws) rfl dd_X9_kind_1.2.2.2.2.2.2.2.2.2.1 rfl ?_
      refine xr_iload_n (n := 49) (j := 2) C dd_X9_kind_1.2.2.2.2.2.2.2.2.2.2.1 rfl rfl ?_
      obtain ⟨r_13, hE_13, hR⟩ := yf_b hR
      have J_13 : X p l e (yR 3 0 0) s m args below meth c D A H0 3 Q [[(g, .inr (11, [.int x_7.2, .ref gw, .ref gB, .ref gK, .ref gU, .ref gS, .int gbe, .int gwo, .long gta, .null, .int glr, .int glc, .int gti, .int ggo, .ref gR, .int gch, .ref gD]))], [(gw, .inr (10, [.int gwr, .int gwk, .int gwc, .int i1, .int gws, .ref gwa, .ref gwb]))]] 0 0 [(2, .int gwg)] 57 [.int r_13, .int gws, .ref gw] := by
        refine xr_iand (n := 58) C dd_X9_kind_1.2.2.2.2.2.2.2.2.2.2.2.2.2.2.2.1 rfl ?_
        obtain ⟨g_14, hR⟩ := yf_g hR
        refine xr_put (n := 61) C 1 rfl rfl 4 (by decide) in_X8 tyX8 tyX8_ok nmX8 u_1209 rfl rfl (ynz_f g_14) (ynz_n g_14) (Nat.le_of_ble_eq_true rfl) [[(g, .inr (11, [.int x_7.2, .ref gw, .ref gB, .ref gK, .ref gU, .ref gS, .int gbe, .int gwo, .long gta, .null, .int glr, .int glc, .int gti, .int ggo, .ref gR, .int gch, .ref gD]))], [(gw, .inr (10, [.int gwr, .int gwk, .int gwc, .int i1, .int (gws &&& r_13), .ref gwa, .ref gwb]))]] rfl rfl dd_X9_kind_2.1 ?_
        refine xr_iload_n (n := 62) (j := 0) C dd_X9_kind_2.2.1 rfl rfl ?_
        obtain rfl := Option.some.inj hR
        exact ret gwg ⟨rfl, rfl⟩ (Nat.le_of_ble_eq_true rfl) (Nat.le_of_ble_eq_true rfl) dd_X9_kind_2.2.2.1
      refine xr_if_ne (tgt := 56) (n := 52) C dd_X9_kind_1.2.2.2.2.2.2.2.2.2.2.2.1 rfl rfl (fun c_15 => ?_) (fun c_15 => ?_)
      · replace hE_13 := yf_f c_15 hE_13
        refine xr_iconst (n := 57) (v := 0) C dd_X9_kind_1.2.2.2.2.2.2.2.2.2.2.2.2.2.2.1 rfl rfl ?_
        refine xr_lv (lv' := [(2, .int gwg)]) [0] rfl ?_
        have e_16 := Option.some.inj hE_13
        subst e_16
        exact J_13
      · replace hE_13 := yf_t c_15 hE_13
        refine xr_iconst (n := 53) (v := 1) C dd_X9_kind_1.2.2.2.2.2.2.2.2.2.2.2.2.1 rfl rfl ?_
        refine xr_goto (tgt := 57) C dd_X9_kind_1.2.2.2.2.2.2.2.2.2.2.2.2.2.1 rfl ?_
        refine xr_lv (lv' := [(2, .int gwg)]) [0] rfl ?_
        have e_17 := Option.some.inj hE_13
        subst e_17
        exact J_13
    · replace hR := yf_f c_11 hR
      refine xr_iconst (n := 23) (v := 0) C dd_X9_kind_0.2.2.2.2.2.2.2.2.2.2.2.2.1 rfl rfl ?_
      obtain rfl := Option.some.inj hR
      exact ret 0 ⟨rfl, rfl⟩ (Nat.le_of_ble_eq_true rfl) (Nat.le_of_ble_eq_true rfl) dd_X9_kind_0.2.2.2.2.2.2.2.2.2.2.2.2.2.1
  refine xr_if_ne (tgt := 14) (n := 10) C dd_X9_kind_0.2.2.2.2.2.1 rfl rfl (fun c_18 => ?_) (fun c_18 => ?_)
  · replace hE_6 := yf_f c_18 hE_6
    refine xr_iconst (n := 15) (v := 0) C dd_X9_kind_0.2.2.2.2.2.2.2.2.1 rfl rfl ?_
    have e_19 := Option.some.inj hE_6
    subst e_19
    exact J_6
  · replace hE_6 := yf_t c_18 hE_6
    refine xr_iconst (n := 11) (v := 1) C dd_X9_kind_0.2.2.2.2.2.2.1 rfl rfl ?_
    refine xr_goto (tgt := 15) C dd_X9_kind_0.2.2.2.2.2.2.2.1 rfl ?_
    have e_20 := Option.some.inj hE_6
    subst e_20
    exact J_6
def fX9_kind_r (gwg : Int32) (gws : Int32) (i1 : Int32) : Option (Int32 × Int32 × Int32 × Int32) := ((fX9_isIn i1 0 2).bind fun x_1 => ((((if x_1 = 0 then some 1 else some 0) : Option (Int32))).bind fun r_6 => ((fX9_start_r r_6 1).bind fun x_7 => (if x_7.1 = 0 then ((((if i1 = 0 then some 1 else some 0) : Option (Int32))).bind fun r_13 => (if (gws &&& r_13) = 0 ∨ (gws &&& r_13) = 1 then some (gwg, x_7.2, i1, gws &&& r_13) else none)) else some (0, x_7.2, gwg, gws)))))
set_option maxHeartbeats 4000000 in
set_option maxRecDepth 100000 in
theorem kX9_kind_r (l : Launch) (D : va_G) (cy : Nat → ClassId) (g : Nat) (gth : Int32) (gw : Nat) (gB : Nat) (gK : Nat) (gU : Nat) (gS : Nat) (gbe : Int32) (gwo : Int32) (gta : Int64) (gn : Nat) (glr : Int32) (glc : Int32) (gti : Int32) (ggo : Int32) (gR : Nat) (gch : Int32) (gD : Nat) (gwr : Int32) (gwk : Int32) (gwc : Int32) (gwg : Int32) (gws : Int32) (gwa : Nat) (gwb : Nat) (i1 : Int32) {res : Int32 × Int32 × Int32 × Int32} (hR : fX9_kind_r gwg gws i1 = some res) : YM l D cy yX9_kind hX9_kind 3 0 0 [.ref g, .int i1] [[(g, .inr (11, [.int gth, .ref gw, .ref gB, .ref gK, .ref gU, .ref gS, .int gbe, .int gwo, .long gta, .ref gn, .int glr, .int glc, .int gti, .int ggo, .ref gR, .int gch, .ref gD]))], [(gw, .inr (10, [.int gwr, .int gwk, .int gwc, .int gwg, .int gws, .ref gwa, .ref gwb]))]] (fun v u => v = some (.int res.1) ∧ u = [[(g, .inr (11, [.int res.2.1, .ref gw, .ref gB, .ref gK, .ref gU, .ref gS, .int gbe, .int gwo, .long gta, .ref gn, .int glr, .int glc, .int gti, .int ggo, .ref gR, .int gch, .ref gD]))], [(gw, .inr (10, [.int gwr, .int gwk, .int gwc, .int res.2.2.1, .int res.2.2.2, .ref gwa, .ref gwb]))]]) := by
  unfold fX9_kind_r at hR
  refine YM.ofI (cc := cX9_kind) (maxL := 3) (ret := (some .int)) (by decide +kernel) rfl (Nat.le_of_ble_eq_true rfl) [(0, .ref g), (1, .int i1)] rfl rfl (fun p e s m args below meth c A H0 Q C hnm ret => ?_)
  refine xr_aload_n (n := 1) (j := 0) C dd_X9_kind_0.1 rfl rfl ?_
  refine xr_iload_n (n := 2) (j := 1) C dd_X9_kind_0.2.1 rfl rfl ?_
  refine xr_iconst (n := 3) (v := 0) C dd_X9_kind_0.2.2.1 rfl rfl ?_
  refine xr_iconst (n := 4) (v := 2) C dd_X9_kind_0.2.2.2.1 rfl rfl ?_
  obtain ⟨x_1, hx_1, hR⟩ := yf_b hR
  refine xr_callSp (n := 7) (As := [.int i1, .int 0, .int 2]) (rest := [.ref g]) C (kX9_isIn l D cy (i1 := i1) (i2 := 0) (i3 := 2) hx_1) mX9_isIn u_1298 u_1299 2 [] [0, 1] rfl (by decide +kernel) rfl rfl rfl rfl (Nat.le_of_ble_eq_true rfl) (Nat.le_of_ble_eq_true rfl) (Nat.le_of_ble_eq_true rfl) (Nat.le_of_ble_eq_true rfl) (Nat.le_of_ble_eq_true rfl) dd_X9_kind_0.2.2.2.2.1 rfl (fun _ _ hp => hp.2) (fun v_2 hp_4 => ?_)
  obtain ⟨rfl, -⟩ := hp_4
  refine xr_st (st' := [.int x_1, .ref g]) rfl ?_
  obtain ⟨r_6, hE_6, hR⟩ := yf_b hR
  have J_6 : X p l e (yR 3 0 0) s m args below meth c D A H0 3 Q [[(g, .inr (11, [.int gth, .ref gw, .ref gB, .ref gK, .ref gU, .ref gS, .int gbe, .int gwo, .long gta, .ref gn, .int glr, .int glc, .int gti, .int ggo, .ref gR, .int gch, .ref gD]))], [(gw, .inr (10, [.int gwr, .int gwk, .int gwc, .int gwg, .int gws, .ref gwa, .ref gwb]))]] 0 0 [(0, .ref g), (1, .int i1)] 15 [.int r_6, .ref g] := by
    refine xr_iconst (n := 16) (v := 1) C dd_X9_kind_0.2.2.2.2.2.2.2.2.2.1 rfl rfl ?_
    obtain ⟨x_7, hx_7, hR⟩ := yf_b hR
    refine xr_callV (n := 19) (As := [.int r_6, .int 1]) (rest := []) C (kX9_start_r l D cy (g := g) (gth := gth) (gw := gw) (gB := gB) (gK := gK) (gU := gU) (gS := gS) (gbe := gbe) (gwo := gwo) (gta := gta) (gn := gn) (glr := glr) (glc := glc) (gti := gti) (ggo := ggo) (gR := gR) (gch := gch) (gD := gD) (i1 := r_6) (i2 := 1) hx_7) mX9_start u_1301 u_1303 u_29 0 rfl rfl 2 [0] [1] rfl (by decide +kernel) rfl rfl rfl rfl (Nat.le_of_ble_eq_true rfl) (Nat.le_of_ble_eq_true rfl) (Nat.le_of_ble_eq_true rfl) (Nat.le_of_ble_eq_true rfl) (Nat.le_of_ble_eq_true rfl) dd_X9_kind_0.2.2.2.2.2.2.2.2.2.2.1 rfl (fun v_8 u_9 hp_10 => ?_)
    obtain ⟨rfl, rfl⟩ := hp_10
    refine xr_perm C 2 [0, 1] [] [[(g, .inr (11, [.int x_7.2, .ref gw, .ref gB, .ref gK, .ref gU, .ref gS, .int gbe, .int gwo, .long gta, .ref gn, .int glr, .int glc, .int gti, .int ggo, .ref gR, .int gch, .ref gD]))], [(gw, .inr (10, [.int gwr, .int gwk, .int gwc, .int gwg, .int gws, .ref gwa, .ref gwb]))]] rfl (by decide +kernel) rfl ?_
    refine xr_st (st' := [.int x_7.1]) rfl ?_
    refine xr_if_eq (tgt := 24) (n := 22) C dd_X9_kind_0.2.2.2.2.2.2.2.2.2.2.2.1 rfl rfl (fun c_11 => ?_) (fun c_11 => ?_)
    · replace hR := yf_t c_11 hR
      refine xr_aload_n (n := 25) (j := 0) C dd_X9_kind_0.2.2.2.2.2.2.2.2.2.2.2.2.2.2.1 rfl rfl ?_
      refine xr_get (n := 28) C 0 rfl rfl 1 (by decide) in_X9 u_1238 rfl (v := .ref gw) rfl dd_X9_kind_0.2.2.2.2.2.2.2.2.2.2.2.2.2.2.2.1 rfl ?_
      refine xr_get (n := 31) C 1 rfl rfl 3 (by decide) in_X8 u_1207 rfl (v := .int gwg) rfl dd_X9_kind_1.1 rfl ?_
      refine xr_istore_n (n := 32) C [(2, .int gwg), (0, .ref g), (1, .int i1)] dd_X9_kind_1.2.1 (by decide) rfl rfl ?_
      refine xr_aload_n (n := 33) (j := 1) C dd_X9_kind_1.2.2.1 rfl rfl ?_
      refine xr_get (n := 36) C 0 rfl rfl 1 (by decide) in_X9 u_1238 rfl (v := .ref gw) rfl dd_X9_kind_1.2.2.2.1 rfl ?_
      refine xr_iload_n (n := 37) (j := 2) C dd_X9_kind_1.2.2.2.2.1 rfl rfl ?_
      refine xr_put (n := 40) C 1 rfl rfl 3 (by decide) in_X8 tyX8 tyX8_ok nmX8 u_1207 rfl rfl rfl rfl (Nat.le_of_ble_eq_true rfl) [[(g, .inr (11, [.int x_7.2, .ref gw, .ref gB, .ref gK, .ref gU, .ref gS, .int gbe, .int gwo, .long gta, .ref gn, .int glr, .int glc, .int gti, .int ggo, .ref gR, .int gch, .ref gD]))], [(gw, .inr (10, [.int gwr, .int gwk, .int gwc, .int i1, .int gws, .ref gwa, .ref gwb]))]] rfl rfl dd_X9_kind_1.2.2.2.2.2.1 ?_
      refine xr_aload_n (n := 41) (j := 1) C dd_X9_kind_1.2.2.2.2.2.2.1 rfl rfl ?_
      refine xr_get (n := 44) C 0 rfl rfl 1 (by decide) in_X9 u_1238 rfl (v := .ref gw) rfl dd_X9_kind_1.2.2.2.2.2.2.2.1 rfl ?_
      refine xr_dup (n := 45) C dd_X9_kind_1.2.2.2.2.2.2.2.2.1 rfl rfl ?_
      refine xr_get (n := 48) C 1 rfl rfl 4 (by decide) in_X8 u_1209 rfl (v := .int gws) rfl dd_X9_kind_1.2.2.2.2.2.2.2.2.2.1 rfl ?_
      refine xr_iload_n (n := 49) (j := 2) C dd_X9_kind_1.2.2.2.2.2.2.2.2.2.2.1 rfl rfl ?_
      obtain ⟨r_13, hE_13, hR⟩ := yf_b hR
      have J_13 : X p l e (yR 3 0 0) s m args below meth c D A H0 3 Q [[(g, .inr (11, [.int x_7.2, .ref gw, .ref gB, .ref gK, .ref gU, .ref gS, .int gbe, .int gwo, .long gta, .ref gn, .int glr, .int glc, .int gti, .int ggo, .ref gR, .int gch, .ref gD]))], [(gw, .inr (10, [.int gwr, .int gwk, .int gwc, .int i1, .int gws, .ref gwa, .ref gwb]))]] 0 0 [(2, .int gwg)] 57 [.int r_13, .int gws, .ref gw] := by
        refine xr_iand (n := 58) C dd_X9_kind_1.2.2.2.2.2.2.2.2.2.2.2.2.2.2.2.1 rfl ?_
        obtain ⟨g_14, hR⟩ := yf_g hR
        refine xr_put (n := 61) C 1 rfl rfl 4 (by decide) in_X8 tyX8 tyX8_ok nmX8 u_1209 rfl rfl (ynz_f g_14) (ynz_n g_14) (Nat.le_of_ble_eq_true rfl) [[(g, .inr (11, [.int x_7.2, .ref gw, .ref gB, .ref gK, .ref gU, .ref gS, .int gbe, .int gwo, .long gta, .ref gn, .int glr, .int glc, .int gti, .int ggo, .ref gR, .int gch, .ref gD]))], [(gw, .inr (10, [.int gwr, .int gwk, .int gwc, .int i1, .int (gws &&& r_13), .ref gwa, .ref gwb]))]] rfl rfl dd_X9_kind_2.1 ?_
        refine xr_iload_n (n := 62) (j := 0) C dd_X9_kind_2.2.1 rfl rfl ?_
        obtain rfl := Option.some.inj hR
        exact ret gwg ⟨rfl, rfl⟩ (Nat.le_of_ble_eq_true rfl) (Nat.le_of_ble_eq_true rfl) dd_X9_kind_2.2.2.1
      refine xr_if_ne (tgt := 56) (n := 52) C dd_X9_kind_1.2.2.2.2.2.2.2.2.2.2.2.1 rfl rfl (fun c_15 => ?_) (fun c_15 => ?_)
      · replace hE_13 := yf_f c_15 hE_13
        refine xr_iconst (n := 57) (v := 0) C dd_X9_kind_1.2.2.2.2.2.2.2.2.2.2.2.2.2.2.1 rfl rfl ?_
        refine xr_lv (lv' := [(2, .int gwg)]) [0] rfl ?_
        have e_16 := Option.some.inj hE_13
        subst e_16
        exact J_13
      · replace hE_13 := yf_t c_15 hE_13
        refine xr_iconst (n := 53) (v := 1) C dd_X9_kind_1.2.2.2.2.2.2.2.2.2.2.2.2.1 rfl rfl ?_
        refine xr_goto (tgt := 57) C dd_X9_kind_1.2.2.2.2.2.2.2.2.2.2.2.2.2.1 rfl ?_
        refine xr_lv (lv' := [(2, .int gwg)]) [0] rfl ?_
        have e_17 := Option.some.inj hE_13
        subst e_17
        exact J_13
    · replace hR := yf_f c_11 hR
      refine xr_iconst (n := 23) (v := 0) C dd_X9_kind_0.2.2.2.2.2.2.2.2.2.2.2.2.1 rfl rfl ?_
      obtain rfl := Option.some.inj hR
      exact ret 0 ⟨rfl, rfl⟩ (Nat.le_of_ble_eq_true rfl) (Nat.le_of_ble_eq_true rfl) dd_X9_kind_0.2.2.2.2.2.2.2.2.2.2.2.2.2.1
  refine xr_if_ne (tgt := 14) (n := 10) C dd_X9_kind_0.2.2.2.2.2.1 rfl rfl (fun c_18 => ?_) (fun c_18 => ?_)
  · replace hE_6 := yf_f c_18 hE_6
    refine xr_iconst (n := 15) (v := 0) C dd_X9_kind_0.2.2.2.2.2.2.2.2.1 rfl rfl ?_
    have e_19 := Option.some.inj hE_6
    subst e_19
    exact J_6
  · replace hE_6 := yf_t c_18 hE_6
    refine xr_iconst (n := 11) (v := 1) C dd_X9_kind_0.2.2.2.2.2.2.1 rfl rfl ?_
    refine xr_goto (tgt := 15) C dd_X9_kind_0.2.2.2.2.2.2.2.1 rfl ?_
    have e_20 := Option.some.inj hE_6
    subst e_20
    exact J_6
theorem dd_X9_checked_0 : dk_R cX9_checked [(0, .aload_n 0, 1), (1, .iload_n 1, 1), (2, .ifCond .eq 17, 3), (5, .aload_n 0, 1), (6, .getfield 16, 3), (9, .getfield 86, 3), (12, .ifCond .eq 7, 3), (15, .iconst 1, 1), (16, .goto 4, 3), (19, .iconst 0, 1), (20, .iconst 1, 1), (21, .invokevirtual 79, 3), (24, .ifCond .eq 5, 3), (27, .iconst 0, 1), (28, .ireturn, 1), (29, .aload_n 0, 1)] := dk_use _ _ (by decide +kernel)
theorem dd_X9_checked_1 : dk_R cX9_checked [(30, .getfield 16, 3), (33, .getfield 89, 3), (36, .istore_n 2, 1), (37, .aload_n 0, 1), (38, .getfield 16, 3), (41, .iload_n 1, 1), (42, .putfield 89, 3), (45, .iload_n 2, 1), (46, .ireturn, 1)] := dk_use _ _ (by decide +kernel)
def fX9_checked_i (gwg : Int32) (gws : Int32) (i1 : Int32) : Option (Int32 × Int32 × Int32) := ((((if i1 = 0 then some 0 else (if gwg = 0 then some 0 else some 1)) : Option (Int32))).bind fun r_3 => ((fX9_start_i r_3 1).bind fun x_4 => (if x_4.1 = 0 then (if i1 = 0 ∨ i1 = 1 then (if gws = 0 ∨ gws = 1 then some (gws, x_4.2, i1) else none) else none) else some (0, x_4.2, gws))))
abbrev hX9_checked : Cond := .code yX9_checked cX9_checked 3 (some .boolean)
theorem mX9_checked : yM yX9_checked hX9_checked 1 := ⟨u_1330, u_64, by decide +kernel, by decide +kernel, by decide +kernel⟩
set_option maxHeartbeats 4000000 in
set_option maxRecDepth 100000 in
theorem kX9_checked_i (l : Launch) (D : va_G) (cy : Nat → ClassId) (g : Nat) (gth : Int32) (gw : Nat) (gB : Nat) (gK : Nat) (gU : Nat) (gS : Nat) (gbe : Int32) (gwo : Int32) (gta : Int64) (glr : Int32) (glc : Int32) (gti : Int32) (ggo : Int32) (gR : Nat) (gch : Int32) (gD : Nat) (gwr : Int32) (gwk : Int32) (gwc : Int32) (gwg : Int32) (gws : Int32) (gwa : Nat) (gwb : Nat) (i1 : Int32) {res : Int32 × Int32 × Int32} (hR : fX9_checked_i gwg gws i1 = some res) : YM l D cy yX9_checked hX9_checked 3 0 0 [.ref g, .int i1] [[(g, .inr (11, [.int gth, .ref gw, .ref gB, .ref gK, .ref gU, .ref gS, .int gbe, .int gwo, .long gta, .null, .int glr, .int glc, .int gti, .int ggo, .ref gR, .int gch, .ref gD]))], [(gw, .inr (10, [.int gwr, .int gwk, .int gwc, .int gwg, .int gws, .ref gwa, .ref gwb]))]] (fun v u => v = some (.int res.1) ∧ u = [[(g, .inr (11, [.int res.2.1, .ref gw, .ref gB, .ref gK, .ref gU, .ref gS, .int gbe, .int gwo, .long gta, .null, .int glr, .int glc, .int gti, .int ggo, .ref gR, .int gch, .ref gD]))], [(gw, .inr (10, [.int gwr, .int gwk, .int gwc, .int gwg, .int res.2.2, .ref gwa, .ref gwb]))]]) := by
  unfold fX9_checked_i at hR
  refine YM.ofZ (cc := cX9_checked) (maxL := 3) (ret := (some .boolean)) (by decide +kernel) rfl (Nat.le_of_ble_eq_true rfl) [(0, .ref g), (1, .int i1)] rfl .boolean rfl (fun p e s m args below meth c A H0 Q C hnm ret => ?_)
  refine xr_aload_n (n := 1) (j := 0) C dd_X9_checked_0.1 rfl rfl ?_
  refine xr_iload_n (n := 2) (j := 1) C dd_X9_checked_0.2.1 rfl rfl ?_
  obtain ⟨r_3, hE_3, hR⟩ := yf_b hR
  have J_3 : X p l e (yR 3 0 0) s m args below meth c D A H0 3 Q [[(g, .inr (11, [.int gth, .ref gw, .ref gB, .ref gK, .ref gU, .ref gS, .int gbe, .int gwo, .long gta, .null, .int glr, .int glc, .int gti, .int ggo, .ref gR, .int gch, .ref gD]))], [(gw, .inr (10, [.int gwr, .int gwk, .int gwc, .int gwg, .int gws, .ref gwa, .ref gwb]))]] 0 0 [(0, .ref g), (1, .int i1)] 20 [.int r_3, .ref g] := by
    refine xr_iconst (n := 21) (v := 1) C dd_X9_checked_0.2.2.2.2.2.2.2.2.2.2.1 rfl rfl ?_
    obtain ⟨x_4, hx_4, hR⟩ := yf_b hR
    refine xr_callV (n := 24) (As := [.int r_3, .int 1]) (rest := []) C (kX9_start_i l D cy (g := g) (gth := gth) (gw := gw) (gB := gB) (gK := gK) (gU := gU) (gS := gS) (gbe := gbe) (gwo := gwo) (gta := gta) (glr := glr) (glc := glc) (gti := gti) (ggo := ggo) (gR := gR) (gch := gch) (gD := gD) (i1 := r_3) (i2 := 1) hx_4) mX9_start u_1301 u_1303 u_29 0 rfl rfl 2 [0] [1] rfl (by decide +kernel) rfl rfl rfl rfl (Nat.le_of_ble_eq_true rfl) (Nat.le_of_ble_eq_true rfl) (Nat.le_of_ble_eq_true rfl) (Nat.le_of_ble_eq_true rfl) (Nat.le_of_ble_eq_true rfl) dd_X9_checked_0.2.2.2.2.2.2.2.2.2.2.2.1 rfl (fun v_5 u_6 hp_7 => ?_)
    obtain ⟨rfl, rfl⟩ := hp_7
    refine xr_perm C 2 [0, 1] [] [[(g, .inr (11, [.int x_4.2, .ref gw, .ref gB, .ref gK, .ref gU, .ref gS, .int gbe, .int gwo, .long gta, .null, .int glr, .int glc, .int gti, .int ggo, .ref gR, .int gch, .ref gD]))], [(gw, .inr (10, [.int gwr, .int gwk, .int gwc, .int gwg, .int gws, .ref gwa, .ref gwb]))]] rfl (by decide +kernel) rfl ?_
    refine xr_st (st' := [.int x_4.1]) rfl ?_
    refine xr_if_eq (tgt := 29) (n := 27) C dd_X9_checked_0.2.2.2.2.2.2.2.2.2.2.2.2.1 rfl rfl (fun c_8 => ?_) (fun c_8 => ?_)
    · replace hR := yf_t c_8 hR
      refine xr_aload_n (n := 30) (j := 0) C dd_X9_checked_0.2.2.2.2.2.2.2.2.2.2.2.2.2.2.2.1 rfl rfl ?_
      refine xr_get (n := 33) C 0 rfl rfl 1 (by decide) in_X9 u_1238 rfl (v := .ref gw) rfl dd_X9_checked_1.1 rfl ?_
      refine xr_get (n := 36) C 1 rfl rfl 4 (by decide) in_X8 u_1209 rfl (v := .int gws) rfl dd_X9_checked_1.2.1 rfl ?_
      refine xr_istore_n (n := 37) C [(2, .int gws), (0, .ref g), (1, .int i1)] dd_X9_checked_1.2.2.1 (by decide) rfl rfl ?_
      refine xr_aload_n (n := 38) (j := 1) C dd_X9_checked_1.2.2.2.1 rfl rfl ?_
      refine xr_get (n := 41) C 0 rfl rfl 1 (by decide) in_X9 u_1238 rfl (v := .ref gw) rfl dd_X9_checked_1.2.2.2.2.1 rfl ?_
      refine xr_iload_n (n := 42) (j := 2) C dd_X9_checked_1.2.2.2.2.2.1 rfl rfl ?_
      obtain ⟨g_9, hR⟩ := yf_g hR
      refine xr_put (n := 45) C 1 rfl rfl 4 (by decide) in_X8 tyX8 tyX8_ok nmX8 u_1209 rfl rfl (ynz_f g_9) (ynz_n g_9) (Nat.le_of_ble_eq_true rfl) [[(g, .inr (11, [.int x_4.2, .ref gw, .ref gB, .ref gK, .ref gU, .ref gS, .int gbe, .int gwo, .long gta, .null, .int glr, .int glc, .int gti, .int ggo, .ref gR, .int gch, .ref gD]))], [(gw, .inr (10, [.int gwr, .int gwk, .int gwc, .int gwg, .int i1, .ref gwa, .ref gwb]))]] rfl rfl dd_X9_checked_1.2.2.2.2.2.2.1 ?_
      refine xr_iload_n (n := 46) (j := 0) C dd_X9_checked_1.2.2.2.2.2.2.2.1 rfl rfl ?_
      obtain ⟨g_10, hR⟩ := yf_g hR
      obtain rfl := Option.some.inj hR
      exact ret gws (ynz_n g_10) ⟨rfl, rfl⟩ (Nat.le_of_ble_eq_true rfl) (Nat.le_of_ble_eq_true rfl) dd_X9_checked_1.2.2.2.2.2.2.2.2.1
    · replace hR := yf_f c_8 hR
      refine xr_iconst (n := 28) (v := 0) C dd_X9_checked_0.2.2.2.2.2.2.2.2.2.2.2.2.2.1 rfl rfl ?_
      obtain rfl := Option.some.inj hR
      exact ret 0 (by decide) ⟨rfl, rfl⟩ (Nat.le_of_ble_eq_true rfl) (Nat.le_of_ble_eq_true rfl) dd_X9_checked_0.2.2.2.2.2.2.2.2.2.2.2.2.2.2.1
  refine xr_if_eq (tgt := 19) (n := 5) C dd_X9_checked_0.2.2.1 rfl rfl (fun c_11 => ?_) (fun c_11 => ?_)
  · replace hE_3 := yf_t c_11 hE_3
    refine xr_iconst (n := 20) (v := 0) C dd_X9_checked_0.2.2.2.2.2.2.2.2.2.1 rfl rfl ?_
    have e_12 := Option.some.inj hE_3
    subst e_12
    exact J_3
  · replace hE_3 := yf_f c_11 hE_3
    refine xr_aload_n (n := 6) (j := 0) C dd_X9_checked_0.2.2.2.1 rfl rfl ?_
    refine xr_get (n := 9) C 0 rfl rfl 1 (by decide) in_X9 u_1238 rfl (v := .ref gw) rfl dd_X9_checked_0.2.2.2.2.1 rfl ?_
    refine xr_get (n := 12) C 1 rfl rfl 3 (by decide) in_X8 u_1207 rfl (v := .int gwg) rfl dd_X9_checked_0.2.2.2.2.2.1 rfl ?_
    refine xr_if_eq (tgt := 19) (n := 15) C dd_X9_checked_0.2.2.2.2.2.2.1 rfl rfl (fun c_13 => ?_) (fun c_13 => ?_)
    · replace hE_3 := yf_t c_13 hE_3
      refine xr_iconst (n := 20) (v := 0) C dd_X9_checked_0.2.2.2.2.2.2.2.2.2.1 rfl rfl ?_
      have e_14 := Option.some.inj hE_3
      subst e_14
      exact J_3
    · replace hE_3 := yf_f c_13 hE_3
      refine xr_iconst (n := 16) (v := 1) C dd_X9_checked_0.2.2.2.2.2.2.2.1 rfl rfl ?_
      refine xr_goto (tgt := 20) C dd_X9_checked_0.2.2.2.2.2.2.2.2.1 rfl ?_
      have e_15 := Option.some.inj hE_3
      subst e_15
      exact J_3
def fX9_checked_r (gwg : Int32) (gws : Int32) (i1 : Int32) : Option (Int32 × Int32 × Int32) := ((((if i1 = 0 then some 0 else (if gwg = 0 then some 0 else some 1)) : Option (Int32))).bind fun r_3 => ((fX9_start_r r_3 1).bind fun x_4 => (if x_4.1 = 0 then (if i1 = 0 ∨ i1 = 1 then (if gws = 0 ∨ gws = 1 then some (gws, x_4.2, i1) else none) else none) else some (0, x_4.2, gws))))
set_option maxHeartbeats 4000000 in
set_option maxRecDepth 100000 in
theorem kX9_checked_r (l : Launch) (D : va_G) (cy : Nat → ClassId) (g : Nat) (gth : Int32) (gw : Nat) (gB : Nat) (gK : Nat) (gU : Nat) (gS : Nat) (gbe : Int32) (gwo : Int32) (gta : Int64) (gn : Nat) (glr : Int32) (glc : Int32) (gti : Int32) (ggo : Int32) (gR : Nat) (gch : Int32) (gD : Nat) (gwr : Int32) (gwk : Int32) (gwc : Int32) (gwg : Int32) (gws : Int32) (gwa : Nat) (gwb : Nat) (i1 : Int32) {res : Int32 × Int32 × Int32} (hR : fX9_checked_r gwg gws i1 = some res) : YM l D cy yX9_checked hX9_checked 3 0 0 [.ref g, .int i1] [[(g, .inr (11, [.int gth, .ref gw, .ref gB, .ref gK, .ref gU, .ref gS, .int gbe, .int gwo, .long gta, .ref gn, .int glr, .int glc, .int gti, .int ggo, .ref gR, .int gch, .ref gD]))], [(gw, .inr (10, [.int gwr, .int gwk, .int gwc, .int gwg, .int gws, .ref gwa, .ref gwb]))]] (fun v u => v = some (.int res.1) ∧ u = [[(g, .inr (11, [.int res.2.1, .ref gw, .ref gB, .ref gK, .ref gU, .ref gS, .int gbe, .int gwo, .long gta, .ref gn, .int glr, .int glc, .int gti, .int ggo, .ref gR, .int gch, .ref gD]))], [(gw, .inr (10, [.int gwr, .int gwk, .int gwc, .int gwg, .int res.2.2, .ref gwa, .ref gwb]))]]) := by
  unfold fX9_checked_r at hR
  refine YM.ofZ (cc := cX9_checked) (maxL := 3) (ret := (some .boolean)) (by decide +kernel) rfl (Nat.le_of_ble_eq_true rfl) [(0, .ref g), (1, .int i1)] rfl .boolean rfl (fun p e s m args below meth c A H0 Q C hnm ret => ?_)
  refine xr_aload_n (n := 1) (j := 0) C dd_X9_checked_0.1 rfl rfl ?_
  refine xr_iload_n (n := 2) (j := 1) C dd_X9_checked_0.2.1 rfl rfl ?_
  obtain ⟨r_3, hE_3, hR⟩ := yf_b hR
  have J_3 : X p l e (yR 3 0 0) s m args below meth c D A H0 3 Q [[(g, .inr (11, [.int gth, .ref gw, .ref gB, .ref gK, .ref gU, .ref gS, .int gbe, .int gwo, .long gta, .ref gn, .int glr, .int glc, .int gti, .int ggo, .ref gR, .int gch, .ref gD]))], [(gw, .inr (10, [.int gwr, .int gwk, .int gwc, .int gwg, .int gws, .ref gwa, .ref gwb]))]] 0 0 [(0, .ref g), (1, .int i1)] 20 [.int r_3, .ref g] := by
    refine xr_iconst (n := 21) (v := 1) C dd_X9_checked_0.2.2.2.2.2.2.2.2.2.2.1 rfl rfl ?_
    obtain ⟨x_4, hx_4, hR⟩ := yf_b hR
    refine xr_callV (n := 24) (As := [.int r_3, .int 1]) (rest := []) C (kX9_start_r l D cy (g := g) (gth := gth) (gw := gw) (gB := gB) (gK := gK) (gU := gU) (gS := gS) (gbe := gbe) (gwo := gwo) (gta := gta) (gn := gn) (glr := glr) (glc := glc) (gti := gti) (ggo := ggo) (gR := gR) (gch := gch) (gD := gD) (i1 := r_3) (i2 := 1) hx_4) mX9_start u_1301 u_1303 u_29 0 rfl rfl 2 [0] [1] rfl (by decide +kernel) rfl rfl rfl rfl (Nat.le_of_ble_eq_true rfl) (Nat.le_of_ble_eq_true rfl) (Nat.le_of_ble_eq_true rfl) (Nat.le_of_ble_eq_true rfl) (Nat.le_of_ble_eq_true rfl) dd_X9_checked_0.2.2.2.2.2.2.2.2.2.2.2.1 rfl (fun v_5 u_6 hp_7 => ?_)
    obtain ⟨rfl, rfl⟩ := hp_7
    refine xr_perm C 2 [0, 1] [] [[(g, .inr (11, [.int x_4.2, .ref gw, .ref gB, .ref gK, .ref gU, .ref gS, .int gbe, .int gwo, .long gta, .ref gn, .int glr, .int glc, .int gti, .int ggo, .ref gR, .int gch, .ref gD]))], [(gw, .inr (10, [.int gwr, .int gwk, .int gwc, .int gwg, .int gws, .ref gwa, .ref gwb]))]] rfl (by decide +kernel) rfl ?_
    refine xr_st (st' := [.int x_4.1]) rfl ?_
    refine xr_if_eq (tgt := 29) (n := 27) C dd_X9_checked_0.2.2.2.2.2.2.2.2.2.2.2.2.1 rfl rfl (fun c_8 => ?_) (fun c_8 => ?_)
    · replace hR := yf_t c_8 hR
      refine xr_aload_n (n := 30) (j := 0) C dd_X9_checked_0.2.2.2.2.2.2.2.2.2.2.2.2.2.2.2.1 rfl rfl ?_
      refine xr_get (n := 33) C 0 rfl rfl 1 (by decide) in_X9 u_1238 rfl (v := .ref gw) rfl dd_X9_checked_1.1 rfl ?_
      refine xr_get (n := 36) C 1 rfl rfl 4 (by decide) in_X8 u_1209 rfl (v := .int gws) rfl dd_X9_checked_1.2.1 rfl ?_
      refine xr_istore_n (n := 37) C [(2, .int gws), (0, .ref g), (1, .int i1)] dd_X9_checked_1.2.2.1 (by decide) rfl rfl ?_
      refine xr_aload_n (n := 38) (j := 1) C dd_X9_checked_1.2.2.2.1 rfl rfl ?_
      refine xr_get (n := 41) C 0 rfl rfl 1 (by decide) in_X9 u_1238 rfl (v := .ref gw) rfl dd_X9_checked_1.2.2.2.2.1 rfl ?_
      refine xr_iload_n (n := 42) (j := 2) C dd_X9_checked_1.2.2.2.2.2.1 rfl rfl ?_
      obtain ⟨g_9, hR⟩ := yf_g hR
      refine xr_put (n := 45) C 1 rfl rfl 4 (by decide) in_X8 tyX8 tyX8_ok nmX8 u_1209 rfl rfl (ynz_f g_9) (ynz_n g_9) (Nat.le_of_ble_eq_true rfl) [[(g, .inr (11, [.int x_4.2, .ref gw, .ref gB, .ref gK, .ref gU, .ref gS, .int gbe, .int gwo, .long gta, .ref gn, .int glr, .int glc, .int gti, .int ggo, .ref gR, .int gch, .ref gD]))], [(gw, .inr (10, [.int gwr, .int gwk, .int gwc, .int gwg, .int i1, .ref gwa, .ref gwb]))]] rfl rfl dd_X9_checked_1.2.2.2.2.2.2.1 ?_
      refine xr_iload_n (n := 46) (j := 0) C dd_X9_checked_1.2.2.2.2.2.2.2.1 rfl rfl ?_
      obtain ⟨g_10, hR⟩ := yf_g hR
      obtain rfl := Option.some.inj hR
      exact ret gws (ynz_n g_10) ⟨rfl, rfl⟩ (Nat.le_of_ble_eq_true rfl) (Nat.le_of_ble_eq_true rfl) dd_X9_checked_1.2.2.2.2.2.2.2.2.1
    · replace hR := yf_f c_8 hR
      refine xr_iconst (n := 28) (v := 0) C dd_X9_checked_0.2.2.2.2.2.2.2.2.2.2.2.2.2.1 rfl rfl ?_
      obtain rfl := Option.some.inj hR
      exact ret 0 (by decide) ⟨rfl, rfl⟩ (Nat.le_of_ble_eq_true rfl) (Nat.le_of_ble_eq_true rfl) dd_X9_checked_0.2.2.2.2.2.2.2.2.2.2.2.2.2.2.1
  refine xr_if_eq (tgt := 19) (n := 5) C dd_X9_checked_0.2.2.1 rfl rfl (fun c_11 => ?_) (fun c_11 => ?_)
  · replace hE_3 := yf_t c_11 hE_3
    refine xr_iconst (n := 20) (v := 0) C dd_X9_checked_0.2.2.2.2.2.2.2.2.2.1 rfl rfl ?_
    have e_12 := Option.some.inj hE_3
    subst e_12
    exact J_3
  · replace hE_3 := yf_f c_11 hE_3
    refine xr_aload_n (n := 6) (j := 0) C dd_X9_checked_0.2.2.2.1 rfl rfl ?_
    refine xr_get (n := 9) C 0 rfl rfl 1 (by decide) in_X9 u_1238 rfl (v := .ref gw) rfl dd_X9_checked_0.2.2.2.2.1 rfl ?_
    refine xr_get (n := 12) C 1 rfl rfl 3 (by decide) in_X8 u_1207 rfl (v := .int gwg) rfl dd_X9_checked_0.2.2.2.2.2.1 rfl ?_
    refine xr_if_eq (tgt := 19) (n := 15) C dd_X9_checked_0.2.2.2.2.2.2.1 rfl rfl (fun c_13 => ?_) (fun c_13 => ?_)
    · replace hE_3 := yf_t c_13 hE_3
      refine xr_iconst (n := 20) (v := 0) C dd_X9_checked_0.2.2.2.2.2.2.2.2.2.1 rfl rfl ?_
      have e_14 := Option.some.inj hE_3
      subst e_14
      exact J_3
    · replace hE_3 := yf_f c_13 hE_3
      refine xr_iconst (n := 16) (v := 1) C dd_X9_checked_0.2.2.2.2.2.2.2.1 rfl rfl ?_
      refine xr_goto (tgt := 20) C dd_X9_checked_0.2.2.2.2.2.2.2.2.1 rfl ?_
      have e_15 := Option.some.inj hE_3
      subst e_15
      exact J_3
theorem dd_X9_crosses_0 : dk_R cX9_crosses [(0, .iconst 0, 1), (1, .istore_n 3, 1), (2, .iload_n 3, 1), (3, .iconst 5, 1), (4, .if_icmp .ge 55, 3), (7, .iconst 0, 1), (8, .istore 4, 2), (10, .iload 4, 2), (12, .iconst 5, 1), (13, .if_icmp .ge 40, 3), (16, .iload_n 1, 1), (17, .iload_n 3, 1), (18, .invokestatic 93, 3), (21, .ifCond .eq 26, 3), (24, .iload_n 2, 1), (25, .iload 4, 2)] := dk_use _ _ (by decide +kernel)
theorem dd_X9_crosses_1 : dk_R cX9_crosses [(27, .invokestatic 93, 3), (30, .ifCond .eq 17, 3), (33, .aload_n 0, 1), (34, .getfield 27, 3), (37, .iload_n 3, 1), (38, .aaload, 1), (39, .iload 4, 2), (41, .baload, 1), (42, .ifCond .eq 5, 3), (45, .iconst 1, 1), (46, .ireturn, 1), (47, .iinc 4 1, 3), (50, .goto (-40), 3), (53, .iinc 3 1, 3), (56, .goto (-54), 3), (59, .iconst 0, 1)] := dk_use _ _ (by decide +kernel)
theorem dd_X9_crosses_2 : dk_R cX9_crosses [(60, .ireturn, 1)] := dk_use _ _ (by decide +kernel)
def fX9_crosses_i (gKG : Nat → Nat → Int32) (i1 : Int32) (i2 : Int32) : Option (Int32) := ((wl (S := Int32) (B := (Int32) ⊕ Int32) (fun s_1 => (if 5 ≤ s_1 then some (.inr (.inl s_1)) else ((wl (S := Int32) (B := (Int32) ⊕ Int32) (fun s_4 => (if 5 ≤ s_4 then some (.inr (.inl s_4)) else ((fX9_has i1 s_1).bind fun x_7 => (if x_7 = 0 then some (.inl (s_4 + 1)) else ((fX9_has i2 s_4).bind fun x_12 => (if x_12 = 0 then some (.inl (s_4 + 1)) else (if ¬ (s_1 < 0 ∨ 5 ≤ s_1.toNatClampNeg) then (if ¬ (s_4 < 0 ∨ 5 ≤ s_4.toNatClampNeg) then (if (gKG s_1.toNatClampNeg s_4.toNatClampNeg) = 0 then some (.inl (s_4 + 1)) else some (.inr (.inr 1))) else none) else none))))))) yFuel 0).bind fun b_4 => ybr b_4 (fun z_4 => some (.inl (s_1 + 1))) (fun r => some (.inr (.inr r)))))) yFuel 0).bind fun b_1 => ybr b_1 (fun z_1 => some 0) (fun r => some r))
abbrev hX9_crosses : Cond := .code yX9_crosses cX9_crosses 5 (some .boolean)
theorem mX9_crosses : yM yX9_crosses hX9_crosses 2 := ⟨u_1376, u_64, by decide +kernel, by decide +kernel, by decide +kernel⟩
set_option maxHeartbeats 4000000 in
set_option maxRecDepth 100000 in
theorem kX9_crosses_i (l : Launch) (D : va_G) (cy : Nat → ClassId) (g : Nat) (gth : Int32) (gw : Nat) (gB : Nat) (gK : Nat) (gU : Nat) (gS : Nat) (gbe : Int32) (gwo : Int32) (gta : Int64) (glr : Int32) (glc : Int32) (gti : Int32) (ggo : Int32) (gR : Nat) (gch : Int32) (gD : Nat) (gKd : Nat → Nat) (gKG : Nat → Nat → Int32) (i1 : Int32) (i2 : Int32) {res : Int32} (hR : fX9_crosses_i gKG i1 i2 = some res) : YM l D cy yX9_crosses hX9_crosses 2 0 0 [.ref g, .int i1, .int i2] [[(g, .inr (11, [.int gth, .ref gw, .ref gB, .ref gK, .ref gU, .ref gS, .int gbe, .int gwo, .long gta, .null, .int glr, .int glc, .int gti, .int ggo, .ref gR, .int gch, .ref gD]))], [(gK, .inl (cy 4, 5, .inr (.inr (.inr (.inr (yad gKd))))))], xg_rows gKd 5 (cy 2) 5 gKG] (fun v u => v = some (.int res) ∧ u = [[(g, .inr (11, [.int gth, .ref gw, .ref gB, .ref gK, .ref gU, .ref gS, .int gbe, .int gwo, .long gta, .null, .int glr, .int glc, .int gti, .int ggo, .ref gR, .int gch, .ref gD]))], [(gK, .inl (cy 4, 5, .inr (.inr (.inr (.inr (yad gKd))))))], xg_rows gKd 5 (cy 2) 5 gKG]) := by
  unfold fX9_crosses_i at hR
  refine YM.ofZ (cc := cX9_crosses) (maxL := 5) (ret := (some .boolean)) (by decide +kernel) rfl (Nat.le_of_ble_eq_true rfl) [(0, .ref g), (1, .int i1), (2, .int i2)] rfl .boolean rfl (fun p e s m args below meth c A H0 Q C hnm ret => ?_)
  refine xr_iconst (n := 1) (v := 0) C dd_X9_crosses_0.1 rfl rfl ?_
  refine xr_istore_n (n := 2) C [(3, .int 0), (0, .ref g), (1, .int i1), (2, .int i2)] dd_X9_crosses_0.2.1 (by decide) rfl rfl ?_
  refine xr_lv (lv' := [(0, .ref g), (1, .int i1), (2, .int i2), (3, .int 0)]) [1, 2, 3, 0] rfl ?_
  obtain ⟨b_1, hb_1, hR⟩ := yf_b hR
  have K_1 : ∀ z_1, b_1 = .inl z_1 → X p l e (yR 2 0 0) s m args below meth c D A H0 5 Q [[(g, .inr (11, [.int gth, .ref gw, .ref gB, .ref gK, .ref gU, .ref gS, .int gbe, .int gwo, .long gta, .null, .int glr, .int glc, .int gti, .int ggo, .ref gR, .int gch, .ref gD]))], [(gK, .inl (cy 4, 5, .inr (.inr (.inr (.inr (yad gKd))))))], xg_rows gKd 5 (cy 2) 5 gKG] 0 0 [] 59 [] := by
    intro z_1 e_1; subst e_1; replace hR := ybr_l hR
    refine xr_iconst (n := 60) (v := 0) C dd_X9_crosses_1.2.2.2.2.2.2.2.2.2.2.2.2.2.2.2.1 rfl rfl ?_
    obtain rfl := Option.some.inj hR
    exact ret 0 (by decide) ⟨rfl, rfl⟩ (Nat.le_of_ble_eq_true rfl) (Nat.le_of_ble_eq_true rfl) dd_X9_crosses_2.1
  refine y_loop (P := fun (s_1 : Int32) => X p l e (yR 2 0 0) s m args below meth c D A H0 5 Q [[(g, .inr (11, [.int gth, .ref gw, .ref gB, .ref gK, .ref gU, .ref gS, .int gbe, .int gwo, .long gta, .null, .int glr, .int glc, .int gti, .int ggo, .ref gR, .int gch, .ref gD]))], [(gK, .inl (cy 4, 5, .inr (.inr (.inr (.inr (yad gKd))))))], xg_rows gKd 5 (cy 2) 5 gKG] 0 0 [(0, .ref g), (1, .int i1), (2, .int i2), (3, .int s_1)] 2 []) ?_ _ 0 hb_1
  intro s_1 o_1 ho_1 hk_1 hx_1
  refine xr_iload_n (n := 3) (j := 3) C dd_X9_crosses_0.2.2.1 rfl rfl ?_
  refine xr_iconst (n := 4) (v := 5) C dd_X9_crosses_0.2.2.2.1 rfl rfl ?_
  refine xr_icmp_ge (tgt := 59) (n := 7) C dd_X9_crosses_0.2.2.2.2.1 rfl rfl (fun c_2 => ?_) (fun c_2 => ?_)
  · replace ho_1 := yf_t c_2 ho_1
    refine xr_lv (lv' := []) [] rfl ?_
    have e_3 := hx_1 _ (Option.some.inj ho_1).symm
    exact K_1 s_1 e_3.symm
  · replace ho_1 := yf_f c_2 ho_1
    refine xr_iconst (n := 8) (v := 0) C dd_X9_crosses_0.2.2.2.2.2.1 rfl rfl ?_
    refine xr_istore (n := 10) C [(4, .int 0), (0, .ref g), (1, .int i1), (2, .int i2), (3, .int s_1)] dd_X9_crosses_0.2.2.2.2.2.2.1 (by decide) rfl rfl ?_
    refine xr_lv (lv' := [(0, .ref g), (1, .int i1), (2, .int i2), (3, .int s_1), (4, .int 0)]) [1, 2, 3, 4, 0] rfl ?_
    obtain ⟨b_4, hb_4, ho_1⟩ := yf_b ho_1
    have K_4 : ∀ z_4, b_4 = .inl z_4 → X p l e (yR 2 0 0) s m args below meth c D A H0 5 Q [[(g, .inr (11, [.int gth, .ref gw, .ref gB, .ref gK, .ref gU, .ref gS, .int gbe, .int gwo, .long gta, .null, .int glr, .int glc, .int gti, .int ggo, .ref gR, .int gch, .ref gD]))], [(gK, .inl (cy 4, 5, .inr (.inr (.inr (.inr (yad gKd))))))], xg_rows gKd 5 (cy 2) 5 gKG] 0 0 [(0, .ref g), (1, .int i1), (2, .int i2), (3, .int s_1)] 53 [] := by
      intro z_4 e_4; subst e_4; replace ho_1 := ybr_l ho_1
      refine xr_iinc (j := 3) (v := s_1 + 1) (n := 56) C [(3, .int (s_1 + 1)), (0, .ref g), (1, .int i1), (2, .int i2)] dd_X9_crosses_1.2.2.2.2.2.2.2.2.2.2.2.2.2.1 rfl rfl (by decide) rfl rfl ?_
      refine xr_goto (tgt := 2) C dd_X9_crosses_1.2.2.2.2.2.2.2.2.2.2.2.2.2.2.1 rfl ?_
      refine xr_lv (lv' := [(0, .ref g), (1, .int i1), (2, .int i2), (3, .int (s_1 + 1))]) [1, 2, 3, 0] rfl ?_
      exact hk_1 (s_1 + 1) (Option.some.inj ho_1).symm
    refine y_loop (P := fun (s_4 : Int32) => X p l e (yR 2 0 0) s m args below meth c D A H0 5 Q [[(g, .inr (11, [.int gth, .ref gw, .ref gB, .ref gK, .ref gU, .ref gS, .int gbe, .int gwo, .long gta, .null, .int glr, .int glc, .int gti, .int ggo, .ref gR, .int gch, .ref gD]))], [(gK, .inl (cy 4, 5, .inr (.inr (.inr (.inr (yad gKd))))))], xg_rows gKd 5 (cy 2) 5 gKG] 0 0 [(0, .ref g), (1, .int i1), (2, .int i2), (3, .int s_1), (4, .int s_4)] 10 []) ?_ _ 0 hb_4
    intro s_4 o_4 ho_4 hk_4 hx_4
    refine xr_iload (n := 12) (j := 4) C dd_X9_crosses_0.2.2.2.2.2.2.2.1 rfl rfl ?_
    refine xr_iconst (n := 13) (v := 5) C dd_X9_crosses_0.2.2.2.2.2.2.2.2.1 rfl rfl ?_
    refine xr_icmp_ge (tgt := 53) (n := 16) C dd_X9_crosses_0.2.2.2.2.2.2.2.2.2.1 rfl rfl (fun c_5 => ?_) (fun c_5 => ?_)
    · replace ho_4 := yf_t c_5 ho_4
      refine xr_lv (lv' := [(0, .ref g), (1, .int i1), (2, .int i2), (3, .int s_1)]) [0, 1, 2, 3] rfl ?_
      have e_6 := hx_4 _ (Option.some.inj ho_4).symm
      exact K_4 s_4 e_6.symm
    · replace ho_4 := yf_f c_5 ho_4
      refine xr_iload_n (n := 17) (j := 1) C dd_X9_crosses_0.2.2.2.2.2.2.2.2.2.2.1 rfl rfl ?_
      refine xr_iload_n (n := 18) (j := 3) C dd_X9_crosses_0.2.2.2.2.2.2.2.2.2.2.2.1 rfl rfl ?_
      obtain ⟨x_7, hx_7, ho_4⟩ := yf_b ho_4
      refine xr_callSp (n := 21) (As := [.int i1, .int s_1]) (rest := []) C (kX9_has l D cy (i1 := i1) (i2 := s_1) hx_7) mX9_has u_1377 u_1378 3 [] [0, 1, 2] rfl (by decide +kernel) rfl rfl rfl rfl (Nat.le_of_ble_eq_true rfl) (Nat.le_of_ble_eq_true rfl) (Nat.le_of_ble_eq_true rfl) (Nat.le_of_ble_eq_true rfl) (Nat.le_of_ble_eq_true rfl) dd_X9_crosses_0.2.2.2.2.2.2.2.2.2.2.2.2.1 rfl (fun _ _ hp => hp.2) (fun v_8 hp_10 => ?_)
      obtain ⟨rfl, -⟩ := hp_10
      refine xr_st (st' := [.int x_7]) rfl ?_
      refine xr_if_eq (tgt := 47) (n := 24) C dd_X9_crosses_0.2.2.2.2.2.2.2.2.2.2.2.2.2.1 rfl rfl (fun c_11 => ?_) (fun c_11 => ?_)
      · replace ho_4 := yf_t c_11 ho_4
        refine xr_iinc (j := 4) (v := s_4 + 1) (n := 50) C [(4, .int (s_4 + 1)), (0, .ref g), (1, .int i1), (2, .int i2), (3, .int s_1)] dd_X9_crosses_1.2.2.2.2.2.2.2.2.2.2.2.1 rfl rfl (by decide) rfl rfl ?_
        refine xr_goto (tgt := 10) C dd_X9_crosses_1.2.2.2.2.2.2.2.2.2.2.2.2.1 rfl ?_
        refine xr_lv (lv' := [(0, .ref g), (1, .int i1), (2, .int i2), (3, .int s_1), (4, .int (s_4 + 1))]) [1, 2, 3, 4, 0] rfl ?_
        exact hk_4 (s_4 + 1) (Option.some.inj ho_4).symm
      · replace ho_4 := yf_f c_11 ho_4
        refine xr_iload_n (n := 25) (j := 2) C dd_X9_crosses_0.2.2.2.2.2.2.2.2.2.2.2.2.2.2.1 rfl rfl ?_
        refine xr_iload (n := 27) (j := 4) C dd_X9_crosses_0.2.2.2.2.2.2.2.2.2.2.2.2.2.2.2.1 rfl rfl ?_
        obtain ⟨x_12, hx_12, ho_4⟩ := yf_b ho_4
        refine xr_callSp (n := 30) (As := [.int i2, .int s_4]) (rest := []) C (kX9_has l D cy (i1 := i2) (i2 := s_4) hx_12) mX9_has u_1377 u_1378 3 [] [0, 1, 2] rfl (by decide +kernel) rfl rfl rfl rfl (Nat.le_of_ble_eq_true rfl) (Nat.le_of_ble_eq_true rfl) (Nat.le_of_ble_eq_true rfl) (Nat.le_of_ble_eq_true rfl) (Nat.le_of_ble_eq_true rfl) dd_X9_crosses_1.1 rfl (fun _ _ hp => hp.2) (fun v_13 hp_15 => ?_)
        obtain ⟨rfl, -⟩ := hp_15
        refine xr_st (st' := [.int x_12]) rfl ?_
        refine xr_if_eq (tgt := 47) (n := 33) C dd_X9_crosses_1.2.1 rfl rfl (fun c_16 => ?_) (fun c_16 => ?_)
        · replace ho_4 := yf_t c_16 ho_4
          refine xr_iinc (j := 4) (v := s_4 + 1) (n := 50) C [(4, .int (s_4 + 1)), (0, .ref g), (1, .int i1), (2, .int i2), (3, .int s_1)] dd_X9_crosses_1.2.2.2.2.2.2.2.2.2.2.2.1 rfl rfl (by decide) rfl rfl ?_
          refine xr_goto (tgt := 10) C dd_X9_crosses_1.2.2.2.2.2.2.2.2.2.2.2.2.1 rfl ?_
          refine xr_lv (lv' := [(0, .ref g), (1, .int i1), (2, .int i2), (3, .int s_1), (4, .int (s_4 + 1))]) [1, 2, 3, 4, 0] rfl ?_
          exact hk_4 (s_4 + 1) (Option.some.inj ho_4).symm
        · replace ho_4 := yf_f c_16 ho_4
          refine xr_aload_n (n := 34) (j := 0) C dd_X9_crosses_1.2.2.1 rfl rfl ?_
          refine xr_get (n := 37) C 0 rfl rfl 3 (by decide) in_X9 u_1240 rfl (v := .ref gK) rfl dd_X9_crosses_1.2.2.2.1 rfl ?_
          refine xr_iload_n (n := 38) (j := 3) C dd_X9_crosses_1.2.2.2.2.1 rfl rfl ?_
          obtain ⟨g_17, ho_4⟩ := yf_g ho_4
          refine xr_aald (n := 39) C 1 0 rfl 4 rfl rfl g_17 rfl dd_X9_crosses_1.2.2.2.2.2.1 rfl ?_
          refine xr_iload (n := 41) (j := 4) C dd_X9_crosses_1.2.2.2.2.2.2.1 rfl rfl ?_
          obtain ⟨g_18, ho_4⟩ := yf_g ho_4
          refine xr_zaldg (n := 42) C 2 rfl s_1.toNatClampNeg (ylt g_17) g_18 dd_X9_crosses_1.2.2.2.2.2.2.2.1 rfl ?_
          refine xr_if_eq (tgt := 47) (n := 45) C dd_X9_crosses_1.2.2.2.2.2.2.2.2.1 rfl rfl (fun c_19 => ?_) (fun c_19 => ?_)
          · replace ho_4 := yf_t c_19 ho_4
            refine xr_iinc (j := 4) (v := s_4 + 1) (n := 50) C [(4, .int (s_4 + 1)), (0, .ref g), (1, .int i1), (2, .int i2), (3, .int s_1)] dd_X9_crosses_1.2.2.2.2.2.2.2.2.2.2.2.1 rfl rfl (by decide) rfl rfl ?_
            refine xr_goto (tgt := 10) C dd_X9_crosses_1.2.2.2.2.2.2.2.2.2.2.2.2.1 rfl ?_
            refine xr_lv (lv' := [(0, .ref g), (1, .int i1), (2, .int i2), (3, .int s_1), (4, .int (s_4 + 1))]) [1, 2, 3, 4, 0] rfl ?_
            exact hk_4 (s_4 + 1) (Option.some.inj ho_4).symm
          · replace ho_4 := yf_f c_19 ho_4
            refine xr_iconst (n := 46) (v := 1) C dd_X9_crosses_1.2.2.2.2.2.2.2.2.2.1 rfl rfl ?_
            have e_20 := hx_4 _ (Option.some.inj ho_4).symm
            subst e_20
            replace ho_1 := ybr_r ho_1
            have e_21 := hx_1 _ (Option.some.inj ho_1).symm
            subst e_21
            replace hR := ybr_r hR
            obtain rfl := Option.some.inj hR
            exact ret 1 (by decide) ⟨rfl, rfl⟩ (Nat.le_of_ble_eq_true rfl) (Nat.le_of_ble_eq_true rfl) dd_X9_crosses_1.2.2.2.2.2.2.2.2.2.2.1
def fX9_crosses_r (gKG : Nat → Nat → Int32) (i1 : Int32) (i2 : Int32) : Option (Int32) := ((wl (S := Int32) (B := (Int32) ⊕ Int32) (fun s_1 => (if 5 ≤ s_1 then some (.inr (.inl s_1)) else ((wl (S := Int32) (B := (Int32) ⊕ Int32) (fun s_4 => (if 5 ≤ s_4 then some (.inr (.inl s_4)) else ((fX9_has i1 s_1).bind fun x_7 => (if x_7 = 0 then some (.inl (s_4 + 1)) else ((fX9_has i2 s_4).bind fun x_12 => (if x_12 = 0 then some (.inl (s_4 + 1)) else (if ¬ (s_1 < 0 ∨ 5 ≤ s_1.toNatClampNeg) then (if ¬ (s_4 < 0 ∨ 5 ≤ s_4.toNatClampNeg) then (if (gKG s_1.toNatClampNeg s_4.toNatClampNeg) = 0 then some (.inl (s_4 + 1)) else some (.inr (.inr 1))) else none) else none))))))) yFuel 0).bind fun b_4 => ybr b_4 (fun z_4 => some (.inl (s_1 + 1))) (fun r => some (.inr (.inr r)))))) yFuel 0).bind fun b_1 => ybr b_1 (fun z_1 => some 0) (fun r => some r))
set_option maxHeartbeats 4000000 in
set_option maxRecDepth 100000 in
theorem kX9_crosses_r (l : Launch) (D : va_G) (cy : Nat → ClassId) (g : Nat) (gth : Int32) (gw : Nat) (gB : Nat) (gK : Nat) (gU : Nat) (gS : Nat) (gbe : Int32) (gwo : Int32) (gta : Int64) (gn : Nat) (glr : Int32) (glc : Int32) (gti : Int32) (ggo : Int32) (gR : Nat) (gch : Int32) (gD : Nat) (gKd : Nat → Nat) (gKG : Nat → Nat → Int32) (i1 : Int32) (i2 : Int32) {res : Int32} (hR : fX9_crosses_r gKG i1 i2 = some res) : YM l D cy yX9_crosses hX9_crosses 2 0 0 [.ref g, .int i1, .int i2] [[(g, .inr (11, [.int gth, .ref gw, .ref gB, .ref gK, .ref gU, .ref gS, .int gbe, .int gwo, .long gta, .ref gn, .int glr, .int glc, .int gti, .int ggo, .ref gR, .int gch, .ref gD]))], [(gK, .inl (cy 4, 5, .inr (.inr (.inr (.inr (yad gKd))))))], xg_rows gKd 5 (cy 2) 5 gKG] (fun v u => v = some (.int res) ∧ u = [[(g, .inr (11, [.int gth, .ref gw, .ref gB, .ref gK, .ref gU, .ref gS, .int gbe, .int gwo, .long gta, .ref gn, .int glr, .int glc, .int gti, .int ggo, .ref gR, .int gch, .ref gD]))], [(gK, .inl (cy 4, 5, .inr (.inr (.inr (.inr (yad gKd))))))], xg_rows gKd 5 (cy 2) 5 gKG]) := by
  unfold fX9_crosses_r at hR
  refine YM.ofZ (cc := cX9_crosses) (maxL := 5) (ret := (some .boolean)) (by decide +kernel) rfl (Nat.le_of_ble_eq_true rfl) [(0, .ref g), (1, .int i1), (2, .int i2)] rfl .boolean rfl (fun p e s m args below meth c A H0 Q C hnm ret => ?_)
  refine xr_iconst (n := 1) (v := 0) C dd_X9_crosses_0.1 rfl rfl ?_
  refine xr_istore_n (n := 2) C [(3, .int 0), (0, .ref g), (1, .int i1), (2, .int i2)] dd_X9_crosses_0.2.1 (by decide) rfl rfl ?_
  refine xr_lv (lv' := [(0, .ref g), (1, .int i1), (2, .int i2), (3, .int 0)]) [1, 2, 3, 0] rfl ?_
  obtain ⟨b_1, hb_1, hR⟩ := yf_b hR
  have K_1 : ∀ z_1, b_1 = .inl z_1 → X p l e (yR 2 0 0) s m args below meth c D A H0 5 Q [[(g, .inr (11, [.int gth, .ref gw, .ref gB, .ref gK, .ref gU, .ref gS, .int gbe, .int gwo, .long gta, .ref gn, .int glr, .int glc, .int gti, .int ggo, .ref gR, .int gch, .ref gD]))], [(gK, .inl (cy 4, 5, .inr (.inr (.inr (.inr (yad gKd))))))], xg_rows gKd 5 (cy 2) 5 gKG] 0 0 [] 59 [] := by
    intro z_1 e_1; subst e_1; replace hR := ybr_l hR
    refine xr_iconst (n := 60) (v := 0) C dd_X9_crosses_1.2.2.2.2.2.2.2.2.2.2.2.2.2.2.2.1 rfl rfl ?_
    obtain rfl := Option.some.inj hR
    exact ret 0 (by decide) ⟨rfl, rfl⟩ (Nat.le_of_ble_eq_true rfl) (Nat.le_of_ble_eq_true rfl) dd_X9_crosses_2.1
  refine y_loop (P := fun (s_1 : Int32) => X p l e (yR 2 0 0) s m args below meth c D A H0 5 Q [[(g, .inr (11, [.int gth, .ref gw, .ref gB, .ref gK, .ref gU, .ref gS, .int gbe, .int gwo, .long gta, .ref gn, .int glr, .int glc, .int gti, .int ggo, .ref gR, .int gch, .ref gD]))], [(gK, .inl (cy 4, 5, .inr (.inr (.inr (.inr (yad gKd))))))], xg_rows gKd 5 (cy 2) 5 gKG] 0 0 [(0, .ref g), (1, .int i1), (2, .int i2), (3, .int s_1)] 2 []) ?_ _ 0 hb_1
  intro s_1 o_1 ho_1 hk_1 hx_1
  refine xr_iload_n (n := 3) (j := 3) C dd_X9_crosses_0.2.2.1 rfl rfl ?_
  refine xr_iconst (n := 4) (v := 5) C dd_X9_crosses_0.2.2.2.1 rfl rfl ?_
  refine xr_icmp_ge (tgt := 59) (n := 7) C dd_X9_crosses_0.2.2.2.2.1 rfl rfl (fun c_2 => ?_) (fun c_2 => ?_)
  · replace ho_1 := yf_t c_2 ho_1
    refine xr_lv (lv' := []) [] rfl ?_
    have e_3 := hx_1 _ (Option.some.inj ho_1).symm
    exact K_1 s_1 e_3.symm
  · replace ho_1 := yf_f c_2 ho_1
    refine xr_iconst (n := 8) (v := 0) C dd_X9_crosses_0.2.2.2.2.2.1 rfl rfl ?_
    refine xr_istore (n := 10) C [(4, .int 0), (0, .ref g), (1, .int i1), (2, .int i2), (3, .int s_1)] dd_X9_crosses_0.2.2.2.2.2.2.1 (by decide) rfl rfl ?_
    refine xr_lv (lv' := [(0, .ref g), (1, .int i1), (2, .int i2), (3, .int s_1), (4, .int 0)]) [1, 2, 3, 4, 0] rfl ?_
    obtain ⟨b_4, hb_4, ho_1⟩ := yf_b ho_1
    have K_4 : ∀ z_4, b_4 = .inl z_4 → X p l e (yR 2 0 0) s m args below meth c D A H0 5 Q [[(g, .inr (11, [.int gth, .ref gw, .ref gB, .ref gK, .ref gU, .ref gS, .int gbe, .int gwo, .long gta, .ref gn, .int glr, .int glc, .int gti, .int ggo, .ref gR, .int gch, .ref gD]))], [(gK, .inl (cy 4, 5, .inr (.inr (.inr (.inr (yad gKd))))))], xg_rows gKd 5 (cy 2) 5 gKG] 0 0 [(0, .ref g), (1, .int i1), (2, .int i2), (3, .int s_1)] 53 [] := by
      intro z_4 e_4; subst e_4; replace ho_1 := ybr_l ho_1
      refine xr_iinc (j := 3) (v := s_1 + 1) (n := 56) C [(3, .int (s_1 + 1)), (0, .ref g), (1, .int i1), (2, .int i2)] dd_X9_crosses_1.2.2.2.2.2.2.2.2.2.2.2.2.2.1 rfl rfl (by decide) rfl rfl ?_
      refine xr_goto (tgt := 2) C dd_X9_crosses_1.2.2.2.2.2.2.2.2.2.2.2.2.2.2.1 rfl ?_
      refine xr_lv (lv' := [(0, .ref g), (1, .int i1), (2, .int i2), (3, .int (s_1 + 1))]) [1, 2, 3, 0] rfl ?_
      exact hk_1 (s_1 + 1) (Option.some.inj ho_1).symm
    refine y_loop (P := fun (s_4 : Int32) => X p l e (yR 2 0 0) s m args below meth c D A H0 5 Q [[(g, .inr (11, [.int gth, .ref gw, .ref gB, .ref gK, .ref gU, .ref gS, .int gbe, .int gwo, .long gta, .ref gn, .int glr, .int glc, .int gti, .int ggo, .ref gR, .int gch, .ref gD]))], [(gK, .inl (cy 4, 5, .inr (.inr (.inr (.inr (yad gKd))))))], xg_rows gKd 5 (cy 2) 5 gKG] 0 0 [(0, .ref g), (1, .int i1), (2, .int i2), (3, .int s_1), (4, .int s_4)] 10 []) ?_ _ 0 hb_4
    intro s_4 o_4 ho_4 hk_4 hx_4
    refine xr_iload (n := 12) (j := 4) C dd_X9_crosses_0.2.2.2.2.2.2.2.1 rfl rfl ?_
    refine xr_iconst (n := 13) (v := 5) C dd_X9_crosses_0.2.2.2.2.2.2.2.2.1 rfl rfl ?_
    refine xr_icmp_ge (tgt := 53) (n := 16) C dd_X9_crosses_0.2.2.2.2.2.2.2.2.2.1 rfl rfl (fun c_5 => ?_) (fun c_5 => ?_)
    · replace ho_4 := yf_t c_5 ho_4
      refine xr_lv (lv' := [(0, .ref g), (1, .int i1), (2, .int i2), (3, .int s_1)]) [0, 1, 2, 3] rfl ?_
      have e_6 := hx_4 _ (Option.some.inj ho_4).symm
      exact K_4 s_4 e_6.symm
    · replace ho_4 := yf_f c_5 ho_4
      refine xr_iload_n (n := 17) (j := 1) C dd_X9_crosses_0.2.2.2.2.2.2.2.2.2.2.1 rfl rfl ?_
      refine xr_iload_n (n := 18) (j := 3) C dd_X9_crosses_0.2.2.2.2.2.2.2.2.2.2.2.1 rfl rfl ?_
      obtain ⟨x_7, hx_7, ho_4⟩ := yf_b ho_4
      refine xr_callSp (n := 21) (As := [.int i1, .int s_1]) (rest := []) C (kX9_has l D cy (i1 := i1) (i2 := s_1) hx_7) mX9_has u_1377 u_1378 3 [] [0, 1, 2] rfl (by decide +kernel) rfl rfl rfl rfl (Nat.le_of_ble_eq_true rfl) (Nat.le_of_ble_eq_true rfl) (Nat.le_of_ble_eq_true rfl) (Nat.le_of_ble_eq_true rfl) (Nat.le_of_ble_eq_true rfl) dd_X9_crosses_0.2.2.2.2.2.2.2.2.2.2.2.2.1 rfl (fun _ _ hp => hp.2) (fun v_8 hp_10 => ?_)
      obtain ⟨rfl, -⟩ := hp_10
      refine xr_st (st' := [.int x_7]) rfl ?_
      refine xr_if_eq (tgt := 47) (n := 24) C dd_X9_crosses_0.2.2.2.2.2.2.2.2.2.2.2.2.2.1 rfl rfl (fun c_11 => ?_) (fun c_11 => ?_)
      · replace ho_4 := yf_t c_11 ho_4
        refine xr_iinc (j := 4) (v := s_4 + 1) (n := 50) C [(4, .int (s_4 + 1)), (0, .ref g), (1, .int i1), (2, .int i2), (3, .int s_1)] dd_X9_crosses_1.2.2.2.2.2.2.2.2.2.2.2.1 rfl rfl (by decide) rfl rfl ?_
        refine xr_goto (tgt := 10) C dd_X9_crosses_1.2.2.2.2.2.2.2.2.2.2.2.2.1 rfl ?_
        refine xr_lv (lv' := [(0, .ref g), (1, .int i1), (2, .int i2), (3, .int s_1), (4, .int (s_4 + 1))]) [1, 2, 3, 4, 0] rfl ?_
        exact hk_4 (s_4 + 1) (Option.some.inj ho_4).symm
      · replace ho_4 := yf_f c_11 ho_4
        refine xr_iload_n (n := 25) (j := 2) C dd_X9_crosses_0.2.2.2.2.2.2.2.2.2.2.2.2.2.2.1 rfl rfl ?_
        refine xr_iload (n := 27) (j := 4) C dd_X9_crosses_0.2.2.2.2.2.2.2.2.2.2.2.2.2.2.2.1 rfl rfl ?_
        obtain ⟨x_12, hx_12, ho_4⟩ := yf_b ho_4
        refine xr_callSp (n := 30) (As := [.int i2, .int s_4]) (rest := []) C (kX9_has l D cy (i1 := i2) (i2 := s_4) hx_12) mX9_has u_1377 u_1378 3 [] [0, 1, 2] rfl (by decide +kernel) rfl rfl rfl rfl (Nat.le_of_ble_eq_true rfl) (Nat.le_of_ble_eq_true rfl) (Nat.le_of_ble_eq_true rfl) (Nat.le_of_ble_eq_true rfl) (Nat.le_of_ble_eq_true rfl) dd_X9_crosses_1.1 rfl (fun _ _ hp => hp.2) (fun v_13 hp_15 => ?_)
        obtain ⟨rfl, -⟩ := hp_15
        refine xr_st (st' := [.int x_12]) rfl ?_
        refine xr_if_eq (tgt := 47) (n := 33) C dd_X9_crosses_1.2.1 rfl rfl (fun c_16 => ?_) (fun c_16 => ?_)
        · replace ho_4 := yf_t c_16 ho_4
          refine xr_iinc (j := 4) (v := s_4 + 1) (n := 50) C [(4, .int (s_4 + 1)), (0, .ref g), (1, .int i1), (2, .int i2), (3, .int s_1)] dd_X9_crosses_1.2.2.2.2.2.2.2.2.2.2.2.1 rfl rfl (by decide) rfl rfl ?_
          refine xr_goto (tgt := 10) C dd_X9_crosses_1.2.2.2.2.2.2.2.2.2.2.2.2.1 rfl ?_
          refine xr_lv (lv' := [(0, .ref g), (1, .int i1), (2, .int i2), (3, .int s_1), (4, .int (s_4 + 1))]) [1, 2, 3, 4, 0] rfl ?_
          exact hk_4 (s_4 + 1) (Option.some.inj ho_4).symm
        · replace ho_4 := yf_f c_16 ho_4
          refine xr_aload_n (n := 34) (j := 0) C dd_X9_crosses_1.2.2.1 rfl rfl ?_
          refine xr_get (n := 37) C 0 rfl rfl 3 (by decide) in_X9 u_1240 rfl (v := .ref gK) rfl dd_X9_crosses_1.2.2.2.1 rfl ?_
          refine xr_iload_n (n := 38) (j := 3) C dd_X9_crosses_1.2.2.2.2.1 rfl rfl ?_
          obtain ⟨g_17, ho_4⟩ := yf_g ho_4
          refine xr_aald (n := 39) C 1 0 rfl 4 rfl rfl g_17 rfl dd_X9_crosses_1.2.2.2.2.2.1 rfl ?_
          refine xr_iload (n := 41) (j := 4) C dd_X9_crosses_1.2.2.2.2.2.2.1 rfl rfl ?_
          obtain ⟨g_18, ho_4⟩ := yf_g ho_4
          refine xr_zaldg (n := 42) C 2 rfl s_1.toNatClampNeg (ylt g_17) g_18 dd_X9_crosses_1.2.2.2.2.2.2.2.1 rfl ?_
          refine xr_if_eq (tgt := 47) (n := 45) C dd_X9_crosses_1.2.2.2.2.2.2.2.2.1 rfl rfl (fun c_19 => ?_) (fun c_19 => ?_)
          · replace ho_4 := yf_t c_19 ho_4
            refine xr_iinc (j := 4) (v := s_4 + 1) (n := 50) C [(4, .int (s_4 + 1)), (0, .ref g), (1, .int i1), (2, .int i2), (3, .int s_1)] dd_X9_crosses_1.2.2.2.2.2.2.2.2.2.2.2.1 rfl rfl (by decide) rfl rfl ?_
            refine xr_goto (tgt := 10) C dd_X9_crosses_1.2.2.2.2.2.2.2.2.2.2.2.2.1 rfl ?_
            refine xr_lv (lv' := [(0, .ref g), (1, .int i1), (2, .int i2), (3, .int s_1), (4, .int (s_4 + 1))]) [1, 2, 3, 4, 0] rfl ?_
            exact hk_4 (s_4 + 1) (Option.some.inj ho_4).symm
          · replace ho_4 := yf_f c_19 ho_4
            refine xr_iconst (n := 46) (v := 1) C dd_X9_crosses_1.2.2.2.2.2.2.2.2.2.1 rfl rfl ?_
            have e_20 := hx_4 _ (Option.some.inj ho_4).symm
            subst e_20
            replace ho_1 := ybr_r ho_1
            have e_21 := hx_1 _ (Option.some.inj ho_1).symm
            subst e_21
            replace hR := ybr_r hR
            obtain rfl := Option.some.inj hR
            exact ret 1 (by decide) ⟨rfl, rfl⟩ (Nat.le_of_ble_eq_true rfl) (Nat.le_of_ble_eq_true rfl) dd_X9_crosses_1.2.2.2.2.2.2.2.2.2.2.1
