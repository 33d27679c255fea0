theorem u_1305 : Cond.methodLink RX9 67 yX9_refuse ∈ yU := yu_tables_1_6 49 (by decide +kernel) (by decide +kernel)
theorem u_1307 : Cond.instanceMethod yX9_refuse ∈ yU := yu_tables_1_6 51 (by decide +kernel) (by decide +kernel)
theorem u_30 : Cond.selects RX9 yX9_refuse yX9_refuse ∈ yU := yu 30 (by decide +kernel) (by decide +kernel)
theorem u_1304 : Cond.code yX9_start cX9_start 3 (some .boolean) ∈ yU := yu_tables_1_6 48 (by decide +kernel) (by decide +kernel)
def fX9_refuse11_r  : Option (Int32) := some 1
set_option maxHeartbeats 4000000 in
set_option maxRecDepth 100000 in
theorem kX9_refuse11_r (l : Launch) (D : va_G) (cy : Nat → ClassId) (g : Nat) (gw : Nat) (gB : Nat) (gK : Nat) (gU : Nat) (gS : Nat) (gbe : Int32) (gwo : Int32) (gta : Int64) (gn : Nat) (glr : Int32) (glc : Int32) (gti : Int32) (ggo : Int32) (gR : Nat) (gch : Int32) (gD : Nat) {res : Int32} (hR : fX9_refuse11_r  = some res) : YM l D cy yX9_refuse hX9_refuse 1 0 0 [.ref g, .int 1, .int 1] [[(g, .inr (11, [.int 0, .ref gw, .ref gB, .ref gK, .ref gU, .ref gS, .int gbe, .int gwo, .long gta, .ref gn, .int glr, .int glc, .int gti, .int ggo, .ref gR, .int gch, .ref gD]))]] (fun v u => v = some (.int res) ∧ u = [[(g, .inr (11, [.int 1, .ref gw, .ref gB, .ref gK, .ref gU, .ref gS, .int gbe, .int gwo, .long gta, .ref gn, .int glr, .int glc, .int gti, .int ggo, .ref gR, .int gch, .ref gD]))]]) := by
  unfold fX9_refuse11_r at hR
  refine YM.ofZ (cc := cX9_refuse) (maxL := 3) (ret := (some .boolean)) (by decide +kernel) rfl (Nat.le_of_ble_eq_true rfl) [(0, .ref g), (1, .int 1), (2, .int 1)] rfl .boolean rfl (fun p e s m args below meth c A H0 Q C hnm ret => ?_)
  refine xr_iload_n (n := 1) (j := 1) C dd_X9_refuse_0.1 rfl rfl ?_
  refine xr_if_eq (tgt := 16) (n := 4) C dd_X9_refuse_0.2.1 rfl rfl (fun c_1 => absurd c_1 (by decide)) (fun _ => ?_)
  refine xr_aload_n (n := 5) (j := 0) C dd_X9_refuse_0.2.2.1 rfl rfl ?_
  refine xr_get (n := 8) C 0 rfl rfl 0 (by decide) in_X9 u_1237 rfl (v := .int 0) rfl dd_X9_refuse_0.2.2.2.1 rfl ?_
  refine xr_if_ne (tgt := 16) (n := 11) C dd_X9_refuse_0.2.2.2.2.1 rfl rfl (fun c_2 => absurd c_2 (by decide)) (fun _ => ?_)
  refine xr_aload_n (n := 12) (j := 0) C dd_X9_refuse_0.2.2.2.2.2.1 rfl rfl ?_
  refine xr_iload_n (n := 13) (j := 2) C dd_X9_refuse_0.2.2.2.2.2.2.1 rfl rfl ?_
  refine xr_put (n := 16) C 0 rfl rfl 0 (by decide) in_X9 tyX9 tyX9_ok nmX9 u_1237 rfl rfl rfl rfl (Nat.le_of_ble_eq_true rfl) [[(g, .inr (11, [.int 1, .ref gw, .ref gB, .ref gK, .ref gU, .ref gS, .int gbe, .int gwo, .long gta, .ref gn, .int glr, .int glc, .int gti, .int ggo, .ref gR, .int gch, .ref gD]))]] rfl rfl dd_X9_refuse_0.2.2.2.2.2.2.2.1 ?_
  refine xr_aload_n (n := 17) (j := 0) C dd_X9_refuse_0.2.2.2.2.2.2.2.2.1 rfl rfl ?_
  refine xr_get (n := 20) C 0 rfl rfl 0 (by decide) in_X9 u_1237 rfl (v := .int 1) rfl dd_X9_refuse_0.2.2.2.2.2.2.2.2.2.1 rfl ?_
  refine xr_if_le (tgt := 27) (n := 23) C dd_X9_refuse_0.2.2.2.2.2.2.2.2.2.2.1 rfl rfl (fun c_3 => absurd c_3 (by decide)) (fun _ => ?_)
  refine xr_iconst (n := 24) (v := 1) C dd_X9_refuse_0.2.2.2.2.2.2.2.2.2.2.2.1 rfl rfl ?_
  refine xr_goto (tgt := 28) C dd_X9_refuse_0.2.2.2.2.2.2.2.2.2.2.2.2.1 rfl ?_
  obtain rfl := Option.some.inj hR
  exact ret 1 (by decide) ⟨rfl, rfl⟩ (Nat.le_of_ble_eq_true rfl) (Nat.le_of_ble_eq_true rfl) dd_X9_refuse_0.2.2.2.2.2.2.2.2.2.2.2.2.2.2.1
theorem dd_X9_start_0 : dk_R cX9_start [(0, .aload_n 0, 1), (1, .iconst 0, 1), (2, .putfield 64, 3), (5, .aload_n 0, 1), (6, .iload_n 1, 1), (7, .iload_n 2, 1), (8, .invokevirtual 67, 3), (11, .ireturn, 1)] := dk_use _ _ (by decide +kernel)
def fX9_start11_i  : Option (Int32) := ((fX9_refuse11_i).bind fun x_1 => some 1)
abbrev hX9_start : Cond := .code yX9_start cX9_start 3 (some .boolean)
theorem mX9_start : yM yX9_start hX9_start 2 := ⟨u_1304, u_64, by decide +kernel, by decide +kernel, by decide +kernel⟩
set_option maxHeartbeats 4000000 in
set_option maxRecDepth 100000 in
theorem kX9_start11_i (l : Launch) (D : va_G) (cy : Nat → ClassId) (g : Nat) (gth : Int32) (gw : Nat) (gB : Nat) (gK : Nat) (gU : Nat) (gS : Nat) (gbe : Int32) (gwo : Int32) (gta : Int64) (glr : Int32) (glc : Int32) (gti : Int32) (ggo : Int32) (gR : Nat) (gch : Int32) (gD : Nat) {res : Int32} (hR : fX9_start11_i  = some res) : YM l D cy yX9_start hX9_start 2 0 0 [.ref g, .int 1, .int 1] [[(g, .inr (11, [.int gth, .ref gw, .ref gB, .ref gK, .ref gU, .ref gS, .int gbe, .int gwo, .long gta, .null, .int glr, .int glc, .int gti, .int ggo, .ref gR, .int gch, .ref gD]))]] (fun v u => v = some (.int res) ∧ u = [[(g, .inr (11, [.int 1, .ref gw, .ref gB, .ref gK, .ref gU, .ref gS, .int gbe, .int gwo, .long gta, .null, .int glr, .int glc, .int gti, .int ggo, .ref gR, .int gch, .ref gD]))]]) := by
  unfold fX9_start11_i at hR
  refine YM.ofZ (cc := cX9_start) (maxL := 3) (ret := (some .boolean)) (by decide +kernel) rfl (Nat.le_of_ble_eq_true rfl) [(0, .ref g), (1, .int 1), (2, .int 1)] rfl .boolean rfl (fun p e s m args below meth c A H0 Q C hnm ret => ?_)
  refine xr_aload_n (n := 1) (j := 0) C dd_X9_start_0.1 rfl rfl ?_
  refine xr_iconst (n := 2) (v := 0) C dd_X9_start_0.2.1 rfl rfl ?_
  refine xr_put (n := 5) C 0 rfl rfl 0 (by decide) in_X9 tyX9 tyX9_ok nmX9 u_1237 rfl rfl rfl rfl (Nat.le_of_ble_eq_true rfl) [[(g, .inr (11, [.int 0, .ref gw, .ref gB, .ref gK, .ref gU, .ref gS, .int gbe, .int gwo, .long gta, .null, .int glr, .int glc, .int gti, .int ggo, .ref gR, .int gch, .ref gD]))]] rfl rfl dd_X9_start_0.2.2.1 ?_
  refine xr_aload_n (n := 6) (j := 0) C dd_X9_start_0.2.2.2.1 rfl rfl ?_
  refine xr_iload_n (n := 7) (j := 1) C dd_X9_start_0.2.2.2.2.1 rfl rfl ?_
  refine xr_iload_n (n := 8) (j := 2) C dd_X9_start_0.2.2.2.2.2.1 rfl rfl ?_
  obtain ⟨x_1, hx_1, hR⟩ := yf_b hR
  obtain rfl := Option.some.inj (show some ((1) : Int32) = some x_1 from hx_1)
  refine xr_callV (n := 11) (As := [.int 1, .int 1]) (rest := []) C (kX9_refuse11_i l D cy (g := g) (gw := gw) (gB := gB) (gK := gK) (gU := gU) (gS := gS) (gbe := gbe) (gwo := gwo) (gta := gta) (glr := glr) (glc := glc) (gti := gti) (ggo := ggo) (gR := gR) (gch := gch) (gD := gD) hx_1) mX9_refuse u_1305 u_1307 u_30 0 rfl rfl 1 [0] [] rfl (by decide +kernel) rfl rfl rfl rfl (Nat.le_of_ble_eq_true rfl) (Nat.le_of_ble_eq_true rfl) (Nat.le_of_ble_eq_true rfl) (Nat.le_of_ble_eq_true rfl) (Nat.le_of_ble_eq_true rfl) dd_X9_start_0.2.2.2.2.2.2.1 rfl (fun v_2 u_3 hp_4 => ?_)
  obtain ⟨rfl, rfl⟩ := hp_4
  refine xr_perm C 1 [0] [] [[(g, .inr (11, [.int 1, .ref gw, .ref gB, .ref gK, .ref gU, .ref gS, .int gbe, .int gwo, .long gta, .null, .int glr, .int glc, .int gti, .int ggo, .ref gR, .int gch, .ref gD]))]] rfl (by decide +kernel) rfl ?_
  refine xr_st (st' := [.int 1]) rfl ?_
  obtain rfl := Option.some.inj hR
  exact ret 1 (by decide) ⟨rfl, rfl⟩ (Nat.le_of_ble_eq_true rfl) (Nat.le_of_ble_eq_true rfl) dd_X9_start_0.2.2.2.2.2.2.2.1
def fX9_start11_r  : Option (Int32) := ((fX9_refuse11_r).bind fun x_1 => some 1)
set_option maxHeartbeats 4000000 in
set_option maxRecDepth 100000 in
theorem kX9_start11_r (l : Launch) (D : va_G) (cy : Nat → ClassId) (g : Nat) (gth : Int32) (gw : Nat) (gB : Nat) (gK : Nat) (gU : Nat) (gS : Nat) (gbe : Int32) (gwo : Int32) (gta : Int64) (gn : Nat) (glr : Int32) (glc : Int32) (gti : Int32) (ggo : Int32) (gR : Nat) (gch : Int32) (gD : Nat) {res : Int32} (hR : fX9_start11_r  = some res) : YM l D cy yX9_start hX9_start 2 0 0 [.ref g, .int 1, .int 1] [[(g, .inr (11, [.int gth, .ref gw, .ref gB, .ref gK, .ref gU, .ref gS, .int gbe, .int gwo, .long gta, .ref gn, .int glr, .int glc, .int gti, .int ggo, .ref gR, .int gch, .ref gD]))]] (fun v u => v = some (.int res) ∧ u = [[(g, .inr (11, [.int 1, .ref gw, .ref gB, .ref gK, .ref gU, .ref gS, .int gbe, .int gwo, .long gta, .ref gn, .int glr, .int glc, .int gti, .int ggo, .ref gR, .int gch, .ref gD]))]]) := by
  unfold fX9_start11_r at hR
  refine YM.ofZ (cc := cX9_start) (maxL := 3) (ret := (some .boolean)) (by decide +kernel) rfl (Nat.le_of_ble_eq_true rfl) [(0, .ref g), (1, .int 1), (2, .int 1)] rfl .boolean rfl (fun p e s m args below meth c A H0 Q C hnm ret => ?_)
  refine xr_aload_n (n := 1) (j := 0) C dd_X9_start_0.1 rfl rfl ?_
  refine xr_iconst (n := 2) (v := 0) C dd_X9_start_0.2.1 rfl rfl ?_
  refine xr_put (n := 5) C 0 rfl rfl 0 (by decide) in_X9 tyX9 tyX9_ok nmX9 u_1237 rfl rfl rfl rfl (Nat.le_of_ble_eq_true rfl) [[(g, .inr (11, [.int 0, .ref gw, .ref gB, .ref gK, .ref gU, .ref gS, .int gbe, .int gwo, .long gta, .ref gn, .int glr, .int glc, .int gti, .int ggo, .ref gR, .int gch, .ref gD]))]] rfl rfl dd_X9_start_0.2.2.1 ?_
  refine xr_aload_n (n := 6) (j := 0) C dd_X9_start_0.2.2.2.1 rfl rfl ?_
  refine xr_iload_n (n := 7) (j := 1) C dd_X9_start_0.2.2.2.2.1 rfl rfl ?_
  refine xr_iload_n (n := 8) (j := 2) C dd_X9_start_0.2.2.2.2.2.1 rfl rfl ?_
  obtain ⟨x_1, hx_1, hR⟩ := yf_b hR
  obtain rfl := Option.some.inj (show some ((1) : Int32) = some x_1 from hx_1)
  refine xr_callV (n := 11) (As := [.int 1, .int 1]) (rest := []) C (kX9_refuse11_r l D cy (g := g) (gw := gw) (gB := gB) (gK := gK) (gU := gU) (gS := gS) (gbe := gbe) (gwo := gwo) (gta := gta) (gn := gn) (glr := glr) (glc := glc) (gti := gti) (ggo := ggo) (gR := gR) (gch := gch) (gD := gD) hx_1) mX9_refuse u_1305 u_1307 u_30 0 rfl rfl 1 [0] [] rfl (by decide +kernel) rfl rfl rfl rfl (Nat.le_of_ble_eq_true rfl) (Nat.le_of_ble_eq_true rfl) (Nat.le_of_ble_eq_true rfl) (Nat.le_of_ble_eq_true rfl) (Nat.le_of_ble_eq_true rfl) dd_X9_start_0.2.2.2.2.2.2.1 rfl (fun v_2 u_3 hp_4 => ?_)
  obtain ⟨rfl, rfl⟩ := hp_4
  refine xr_perm C 1 [0] [] [[(g, .inr (11, [.int 1, .ref gw, .ref gB, .ref gK, .ref gU, .ref gS, .int gbe, .int gwo, .long gta, .ref gn, .int glr, .int glc, .int gti, .int ggo, .ref gR, .int gch, .ref gD]))]] rfl (by decide +kernel) rfl ?_
  refine xr_st (st' := [.int 1]) rfl ?_
  obtain rfl := Option.some.inj hR
  exact ret 1 (by decide) ⟨rfl, rfl⟩ (Nat.le_of_ble_eq_true rfl) (Nat.le_of_ble_eq_true rfl) dd_X9_start_0.2.2.2.2.2.2.2.1
def fX9_refuse_i (gth : Int32) (i1 : Int32) (i2 : Int32) : Option (Int32 × Int32) := ((((if i1 = 0 then some gth else (if gth = 0 then some i2 else some gth)) : Option (Int32))).bind fun r_3 => (if r_3 ≤ 0 then some (0, r_3) else some (1, r_3)))
set_option maxHeartbeats 4000000 in
set_option maxRecDepth 100000 in
theorem kX9_refuse_i (l : Launch) (D : va_G) (cy : Nat → ClassId) (g : Nat) (gth : Int32) (gw : Nat) (gB : Nat) (gK : Nat) (gU : Nat) (gS : Nat) (gbe : Int32) (gwo : Int32) (gta : Int64) (glr : Int32) (glc : Int32) (gti : Int32) (ggo : Int32) (gR : Nat) (gch : Int32) (gD : Nat) (i1 : Int32) (i2 : Int32) {res : Int32 × Int32} (hR : fX9_refuse_i gth i1 i2 = some res) : YM l D cy yX9_refuse hX9_refuse 1 0 0 [.ref g, .int i1, .int i2] [[(g, .inr (11, [.int gth, .ref gw, .ref gB, .ref gK, .ref gU, .ref gS, .int gbe, .int gwo, .long gta, .null, .int glr, .int glc, .int gti, .int ggo, .ref gR, .int gch, .ref gD]))]] (fun v u => v = some (.int res.1) ∧ u = [[(g, .inr (11, [.int res.2, .ref gw, .ref gB, .ref gK, .ref gU, .ref gS, .int gbe, .int gwo, .long gta, .null, .int glr, .int glc, .int gti, .int ggo, .ref gR, .int gch, .ref gD]))]]) := by
  unfold fX9_refuse_i at hR
  refine YM.ofZ (cc := cX9_refuse) (maxL := 3) (ret := (some .boolean)) (by decide +kernel) rfl (Nat.le_of_ble_eq_true rfl) [(0, .ref g), (1, .int i1), (2, .int i2)] rfl .boolean rfl (fun p e s m args below meth c A H0 Q C hnm ret => ?_)
  refine xr_iload_n (n := 1) (j := 1) C dd_X9_refuse_0.1 rfl rfl ?_
  obtain ⟨r_3, hE_3, hR⟩ := yf_b hR
  have J_3 : X p l e (yR 1 0 0) s m args below meth c D A H0 3 Q [[(g, .inr (11, [.int r_3, .ref gw, .ref gB, .ref gK, .ref gU, .ref gS, .int gbe, .int gwo, .long gta, .null, .int glr, .int glc, .int gti, .int ggo, .ref gR, .int gch, .ref gD]))]] 0 0 [(0, .ref g)] 16 [] := by
    refine xr_aload_n (n := 17) (j := 0) C dd_X9_refuse_0.2.2.2.2.2.2.2.2.1 rfl rfl ?_
    refine xr_get (n := 20) C 0 rfl rfl 0 (by decide) in_X9 u_1237 rfl (v := .int r_3) rfl dd_X9_refuse_0.2.2.2.2.2.2.2.2.2.1 rfl ?_
    refine xr_if_le (tgt := 27) (n := 23) C dd_X9_refuse_0.2.2.2.2.2.2.2.2.2.2.1 rfl rfl (fun c_4 => ?_) (fun c_4 => ?_)
    · replace hR := yf_t c_4 hR
      refine xr_iconst (n := 28) (v := 0) C dd_X9_refuse_0.2.2.2.2.2.2.2.2.2.2.2.2.2.1 rfl rfl ?_
      obtain rfl := Option.some.inj hR
      exact ret 0 (by decide) ⟨rfl, rfl⟩ (Nat.le_of_ble_eq_true rfl) (Nat.le_of_ble_eq_true rfl) dd_X9_refuse_0.2.2.2.2.2.2.2.2.2.2.2.2.2.2.1
    · replace hR := yf_f c_4 hR
      refine xr_iconst (n := 24) (v := 1) C dd_X9_refuse_0.2.2.2.2.2.2.2.2.2.2.2.1 rfl rfl ?_
      refine xr_goto (tgt := 28) C dd_X9_refuse_0.2.2.2.2.2.2.2.2.2.2.2.2.1 rfl ?_
      obtain rfl := Option.some.inj hR
      exact ret 1 (by decide) ⟨rfl, rfl⟩ (Nat.le_of_ble_eq_true rfl) (Nat.le_of_ble_eq_true rfl) dd_X9_refuse_0.2.2.2.2.2.2.2.2.2.2.2.2.2.2.1
  refine xr_if_eq (tgt := 16) (n := 4) C dd_X9_refuse_0.2.1 rfl rfl (fun c_5 => ?_) (fun c_5 => ?_)
  · replace hE_3 := yf_t c_5 hE_3
    refine xr_lv (lv' := [(0, .ref g)]) [0] rfl ?_
    have e_6 := Option.some.inj hE_3
    subst e_6
    exact J_3
  · replace hE_3 := yf_f c_5 hE_3
    refine xr_aload_n (n := 5) (j := 0) C dd_X9_refuse_0.2.2.1 rfl rfl ?_
    refine xr_get (n := 8) C 0 rfl rfl 0 (by decide) in_X9 u_1237 rfl (v := .int gth) rfl dd_X9_refuse_0.2.2.2.1 rfl ?_
    refine xr_if_ne (tgt := 16) (n := 11) C dd_X9_refuse_0.2.2.2.2.1 rfl rfl (fun c_7 => ?_) (fun c_7 => ?_)
    · replace hE_3 := yf_f c_7 hE_3
      refine xr_lv (lv' := [(0, .ref g)]) [0] rfl ?_
      have e_8 := Option.some.inj hE_3
      subst e_8
      exact J_3
    · replace hE_3 := yf_t c_7 hE_3
      refine xr_aload_n (n := 12) (j := 0) C dd_X9_refuse_0.2.2.2.2.2.1 rfl rfl ?_
      refine xr_iload_n (n := 13) (j := 2) C dd_X9_refuse_0.2.2.2.2.2.2.1 rfl rfl ?_
      refine xr_put (n := 16) C 0 rfl rfl 0 (by decide) in_X9 tyX9 tyX9_ok nmX9 u_1237 rfl rfl rfl rfl (Nat.le_of_ble_eq_true rfl) [[(g, .inr (11, [.int i2, .ref gw, .ref gB, .ref gK, .ref gU, .ref gS, .int gbe, .int gwo, .long gta, .null, .int glr, .int glc, .int gti, .int ggo, .ref gR, .int gch, .ref gD]))]] rfl rfl dd_X9_refuse_0.2.2.2.2.2.2.2.1 ?_
      refine xr_lv (lv' := [(0, .ref g)]) [0] rfl ?_
      have e_9 := Option.some.inj hE_3
      subst e_9
      exact J_3
def fX9_refuse_r (gth : Int32) (i1 : Int32) (i2 : Int32) : Option (Int32 × Int32) := ((((if i1 = 0 then some gth else (if gth = 0 then some i2 else some gth)) : Option (Int32))).bind fun r_3 => (if r_3 ≤ 0 then some (0, r_3) else some (1, r_3)))
set_option maxHeartbeats 4000000 in
set_option maxRecDepth 100000 in
theorem kX9_refuse_r (l : Launch) (D : va_G) (cy : Nat → ClassId) (g : Nat) (gth : Int32) (gw : Nat) (gB : Nat) (gK : Nat) (gU : Nat) (gS : Nat) (gbe : Int32) (gwo : Int32) (gta : Int64) (gn : Nat) (glr : Int32) (glc : Int32) (gti : Int32) (ggo : Int32) (gR : Nat) (gch : Int32) (gD : Nat) (i1 : Int32) (i2 : Int32) {res : Int32 × Int32} (hR : fX9_refuse_r gth i1 i2 = some res) : YM l D cy yX9_refuse hX9_refuse 1 0 0 [.ref g, .int i1, .int i2] [[(g, .inr (11, [.int gth, .ref gw, .ref gB, .ref gK, .ref gU, .ref gS, .int gbe, .int gwo, .long gta, .ref gn, .int glr, .int glc, .int gti, .int ggo, .ref gR, .int gch, .ref gD]))]] (fun v u => v = some (.int res.1) ∧ u = [[(g, .inr (11, [.int res.2, .ref gw, .ref gB, .ref gK, .ref gU, .ref gS, .int gbe, .int gwo, .long gta, .ref gn, .int glr, .int glc, .int gti, .int ggo, .ref gR, .int gch, .ref gD]))]]) := by
  unfold fX9_refuse_r at hR
  refine YM.ofZ (cc := cX9_refuse) (maxL := 3) (ret := (some .boolean)) (by decide +kernel) rfl (Nat.le_of_ble_eq_true rfl) [(0, .ref g), (1, .int i1), (2, .int i2)] rfl .boolean rfl (fun p e s m args below meth c A H0 Q C hnm ret => ?_)
  refine xr_iload_n (n := 1) (j := 1) C dd_X9_refuse_0.1 rfl rfl ?_
  obtain ⟨r_3, hE_3, hR⟩ := yf_b hR
  have J_3 : X p l e (yR 1 0 0) s m args below meth c D A H0 3 Q [[(g, .inr (11, [.int r_3, .ref gw, .ref gB, .ref gK, .ref gU, .ref gS, .int gbe, .int gwo, .long gta, .ref gn, .int glr, .int glc, .int gti, .int ggo, .ref gR, .int gch, .ref gD]))]] 0 0 [(0, .ref g)] 16 [] := by
    refine xr_aload_n (n := 17) (j := 0) C dd_X9_refuse_0.2.2.2.2.2.2.2.2.1 rfl rfl ?_
    refine xr_get (n := 20) C 0 rfl rfl 0 (by decide) in_X9 u_1237 rfl (v := .int r_3) rfl dd_X9_refuse_0.2.2.2.2.2.2.2.2.2.1 rfl ?_
    refine xr_if_le (tgt := 27) (n := 23) C dd_X9_refuse_0.2.2.2.2.2.2.2.2.2.2.1 rfl rfl (fun c_4 => ?_) (fun c_4 => ?_)
    · replace hR := yf_t c_4 hR
      refine xr_iconst (n := 28) (v := 0) C dd_X9_refuse_0.2.2.2.2.2.2.2.2.2.2.2.2.2.1 rfl rfl ?_
      obtain rfl := Option.some.inj hR
      exact ret 0 (by decide) ⟨rfl, rfl⟩ (Nat.le_of_ble_eq_true rfl) (Nat.le_of_ble_eq_true rfl) dd_X9_refuse_0.2.2.2.2.2.2.2.2.2.2.2.2.2.2.1
    · replace hR := yf_f c_4 hR
      refine xr_iconst (n := 24) (v := 1) C dd_X9_refuse_0.2.2.2.2.2.2.2.2.2.2.2.1 rfl rfl ?_
      refine xr_goto (tgt := 28) C dd_X9_refuse_0.2.2.2.2.2.2.2.2.2.2.2.2.1 rfl ?_
      obtain rfl := Option.some.inj hR
      exact ret 1 (by decide) ⟨rfl, rfl⟩ (Nat.le_of_ble_eq_true rfl) (Nat.le_of_ble_eq_true rfl) dd_X9_refuse_0.2.2.2.2.2.2.2.2.2.2.2.2.2.2.1
  refine xr_if_eq (tgt := 16) (n := 4) C dd_X9_refuse_0.2.1 rfl rfl (fun c_5 => ?_) (fun c_5 => ?_)
  · replace hE_3 := yf_t c_5 hE_3
    refine xr_lv (lv' := [(0, .ref g)]) [0] rfl ?_
    have e_6 := Option.some.inj hE_3
    subst e_6
    exact J_3
  · replace hE_3 := yf_f c_5 hE_3
    refine xr_aload_n (n := 5) (j := 0) C dd_X9_refuse_0.2.2.1 rfl rfl ?_
    refine xr_get (n := 8) C 0 rfl rfl 0 (by decide) in_X9 u_1237 rfl (v := .int gth) rfl dd_X9_refuse_0.2.2.2.1 rfl ?_
    refine xr_if_ne (tgt := 16) (n := 11) C dd_X9_refuse_0.2.2.2.2.1 rfl rfl (fun c_7 => ?_) (fun c_7 => ?_)
    · replace hE_3 := yf_f c_7 hE_3
      refine xr_lv (lv' := [(0, .ref g)]) [0] rfl ?_
      have e_8 := Option.some.inj hE_3
      subst e_8
      exact J_3
    · replace hE_3 := yf_t c_7 hE_3
      refine xr_aload_n (n := 12) (j := 0) C dd_X9_refuse_0.2.2.2.2.2.1 rfl rfl ?_
      refine xr_iload_n (n := 13) (j := 2) C dd_X9_refuse_0.2.2.2.2.2.2.1 rfl rfl ?_
      refine xr_put (n := 16) C 0 rfl rfl 0 (by decide) in_X9 tyX9 tyX9_ok nmX9 u_1237 rfl rfl rfl rfl (Nat.le_of_ble_eq_true rfl) [[(g, .inr (11, [.int i2, .ref gw, .ref gB, .ref gK, .ref gU, .ref gS, .int gbe, .int gwo, .long gta, .ref gn, .int glr, .int glc, .int gti, .int ggo, .ref gR, .int gch, .ref gD]))]] rfl rfl dd_X9_refuse_0.2.2.2.2.2.2.2.1 ?_
      refine xr_lv (lv' := [(0, .ref g)]) [0] rfl ?_
      have e_9 := Option.some.inj hE_3
      subst e_9
      exact J_3
def fX9_start_i (i1 : Int32) (i2 : Int32) : Option (Int32 × Int32) := ((fX9_refuse_i 0 i1 i2).bind fun x_1 => (if x_1.1 = 0 ∨ x_1.1 = 1 then some (x_1.1, x_1.2) else none))
set_option maxHeartbeats 4000000 in
set_option maxRecDepth 100000 in
theorem kX9_start_i (l : Launch) (D : va_G) (cy : Nat → ClassId) (g : Nat) (gth : Int32) (gw : Nat) (gB : Nat) (gK : Nat) (gU : Nat) (gS : Nat) (gbe : Int32) (gwo : Int32) (gta : Int64) (glr : Int32) (glc : Int32) (gti : Int32) (ggo : Int32) (gR : Nat) (gch : Int32) (gD : Nat) (i1 : Int32) (i2 : Int32) {res : Int32 × Int32} (hR : fX9_start_i i1 i2 = some res) : YM l D cy yX9_start hX9_start 2 0 0 [.ref g, .int i1, .int i2] [[(g, .inr (11, [.int gth, .ref gw, .ref gB, .ref gK, .ref gU, .ref gS, .int gbe, .int gwo, .long gta, .null, .int glr, .int glc, .int gti, .int ggo, .ref gR, .int gch, .ref gD]))]] (fun v u => v = some (.int res.1) ∧ u = [[(g, .inr (11, [.int res.2, .ref gw, .ref gB, .ref gK, .ref gU, .ref gS, .int gbe, .int gwo, .long gta, .null, .int glr, .int glc, .int gti, .int ggo, .ref gR, .int gch, .ref gD]))]]) := by
  unfold fX9_start_i at hR
  refine YM.ofZ (cc := cX9_start) (maxL := 3) (ret := (some .boolean)) (by decide +kernel) rfl (Nat.le_of_ble_eq_true rfl) [(0, .ref g), (1, .int i1), (2, .int i2)] rfl .boolean rfl (fun p e s m args below meth c A H0 Q C hnm ret => ?_)
  refine xr_aload_n (n := 1) (j := 0) C dd_X9_start_0.1 rfl rfl ?_
  refine xr_iconst (n := 2) (v := 0) C dd_X9_start_0.2.1 rfl rfl ?_
  refine xr_put (n := 5) C 0 rfl rfl 0 (by decide) in_X9 tyX9 tyX9_ok nmX9 u_1237 rfl rfl rfl rfl (Nat.le_of_ble_eq_true rfl) [[(g, .inr (11, [.int 0, .ref gw, .ref gB, .ref gK, .ref gU, .ref gS, .int gbe, .int gwo, .long gta, .null, .int glr, .int glc, .int gti, .int ggo, .ref gR, .int gch, .ref gD]))]] rfl rfl dd_X9_start_0.2.2.1 ?_
  refine xr_aload_n (n := 6) (j := 0) C dd_X9_start_0.2.2.2.1 rfl rfl ?_
  refine xr_iload_n (n := 7) (j := 1) C dd_X9_start_0.2.2.2.2.1 rfl rfl ?_
  refine xr_iload_n (n := 8) (j := 2) C dd_X9_start_0.2.2.2.2.2.1 rfl rfl ?_
  obtain ⟨x_1, hx_1, hR⟩ := yf_b hR
  refine xr_callV (n := 11) (As := [.int i1, .int i2]) (rest := []) C (kX9_refuse_i l D cy (g := g) (gth := 0) (gw := gw) (gB := gB) (gK := gK) (gU := gU) (gS := gS) (gbe := gbe) (gwo := gwo) (gta := gta) (glr := glr) (glc := glc) (gti := gti) (ggo := ggo) (gR := gR) (gch := gch) (gD := gD) (i1 := i1) (i2 := i2) hx_1) mX9_refuse u_1305 u_1307 u_30 0 rfl rfl 1 [0] [] rfl (by decide +kernel) rfl rfl rfl rfl (Nat.le_of_ble_eq_true rfl) (Nat.le_of_ble_eq_true rfl) (Nat.le_of_ble_eq_true rfl) (Nat.le_of_ble_eq_true rfl) (Nat.le_of_ble_eq_true rfl) dd_X9_start_0.2.2.2.2.2.2.1 rfl (fun v_2 u_3 hp_4 => ?_)
  obtain ⟨rfl, rfl⟩ := hp_4
  refine xr_perm C 1 [0] [] [[(g, .inr (11, [.int x_1.2, .ref gw, .ref gB, .ref gK, .ref gU, .ref gS, .int gbe, .int gwo, .long gta, .null, .int glr, .int glc, .int gti, .int ggo, .ref gR, .int gch, .ref gD]))]] rfl (by decide +kernel) rfl ?_
  refine xr_st (st' := [.int x_1.1]) rfl ?_
  obtain ⟨g_5, hR⟩ := yf_g hR
  obtain rfl := Option.some.inj hR
  exact ret x_1.1 (ynz_n g_5) ⟨rfl, rfl⟩ (Nat.le_of_ble_eq_true rfl) (Nat.le_of_ble_eq_true rfl) dd_X9_start_0.2.2.2.2.2.2.2.1
