theorem u_1308 : Cond.methodLink RX9 71 yX9_one ∈ yU := yu_tables_1_6 52 (by decide +kernel) (by decide +kernel)
theorem u_1307 : Cond.code yX9_others cX9_others 10 (some .int) ∈ yU := yu_tables_1_6 51 (by decide +kernel) (by decide +kernel)
def fX9_start11_r  : Option (Int32) := ((fX9_refuse11_r).bind fun x_1 => some 1)
set_option maxHeartbeats 4000000 in
set_option maxRecDepth 100000 in
theorem kX9_start11_r (l : Launch) (D : va_G) (cy : Nat → ClassId) (g : Nat) (gth : Int32) (gw : Nat) (gB : Nat) (gK : Nat) (gU : Nat) (gS : Nat) (gbe : Int32) (gwo : Int32) (gta : Int64) (gn : Nat) (glr : Int32) (glc : Int32) (gti : Int32) (ggo : Int32) (gR : Nat) (gch : Int32) (gD : Nat) {res : Int32} (hR : fX9_start11_r  = some res) : YM l D cy yX9_start hX9_start 2 0 0 [.ref g, .int 1, .int 1] [[(g, .inr (11, [.int gth, .ref gw, .ref gB, .ref gK, .ref gU, .ref gS, .int gbe, .int gwo, .long gta, .ref gn, .int glr, .int glc, .int gti, .int ggo, .ref gR, .int gch, .ref gD]))]] (fun v u => v = some (.int res) ∧ u = [[(g, .inr (11, [.int 1, .ref gw, .ref gB, .ref gK, .ref gU, .ref gS, .int gbe, .int gwo, .long gta, .ref gn, .int glr, .int glc, .int gti, .int ggo, .ref gR, .int gch, .ref gD]))]]) := by
  unfold fX9_start11_r at hR
  refine YM.ofZ (cc := cX9_start) (maxL := 3) (ret := (some .boolean)) (by decide +kernel) rfl (Nat.le_of_ble_eq_true rfl) [(0, .ref g), (1, .int 1), (2, .int 1)] rfl .boolean rfl (fun p e s m args below meth c A H0 Q C hnm ret => ?_)
  refine xr_aload_n (n := 1) (j := 0) C dd_X9_start_0.1 rfl rfl ?_
  refine xr_iconst (n := 2) (v := 0) C dd_X9_start_0.2.1 rfl rfl ?_
  refine xr_put (n := 5) C 0 rfl rfl 0 (by decide) in_X9 tyX9 tyX9_ok nmX9 u_1237 rfl rfl rfl rfl (Nat.le_of_ble_eq_true rfl) [[(g, .inr (11, [.int 0, .ref gw, .ref gB, .ref gK, .ref gU, .ref gS, .int gbe, .int gwo, .long gta, .ref gn, .int glr, .int glc, .int gti, .int ggo, .ref gR, .int gch, .ref gD]))]] rfl rfl dd_X9_start_0.2.2.1 ?_
  refine xr_aload_n (n := 6) (j := 0) C dd_X9_start_0.2.2.2.1 rfl rfl ?_
  refine xr_iload_n (n := 7) (j := 1) C dd_X9_start_0.2.2.2.2.1 rfl rfl ?_
  refine xr_iload_n (n := 8) (j := 2) C dd_X9_start_0.2.2.2.2.2.1 rfl rfl ?_
  obtain ⟨x_1, hx_1, hR⟩ := yf_b hR
  obtain rfl := Option.some.inj (show some ((1) : Int32) = some x_1 from hx_1)
  refine xr_callV (n := 11) (As := [.int 1, .int 1]) (rest := []) C (kX9_refuse11_r l D cy (g := g) (gw := gw) (gB := gB) (gK := gK) (gU := gU) (gS := gS) (gbe := gbe) (gwo := gwo) (gta := gta) (gn := gn) (glr := glr) (glc := glc) (gti := gti) (ggo := ggo) (gR := gR) (gch := gch) (gD := gD) hx_1) mX9_refuse u_1301 u_1303 u_30 0 rfl rfl 1 [0] [] rfl (by decide +kernel) rfl rfl rfl rfl (Nat.le_of_ble_eq_true rfl) (Nat.le_of_ble_eq_true rfl) (Nat.le_of_ble_eq_true rfl) (Nat.le_of_ble_eq_true rfl) (Nat.le_of_ble_eq_true rfl) dd_X9_start_0.2.2.2.2.2.2.1 rfl (fun v_2 u_3 hp_4 => ?_)
  obtain ⟨rfl, rfl⟩ := hp_4
  refine xr_perm C 1 [0] [] [[(g, .inr (11, [.int 1, .ref gw, .ref gB, .ref gK, .ref gU, .ref gS, .int gbe, .int gwo, .long gta, .ref gn, .int glr, .int glc, .int gti, .int ggo, .ref gR, .int gch, .ref gD]))]] rfl (by decide +kernel) rfl ?_
  refine xr_st (st' := [.int 1]) rfl ?_
  obtain rfl := Option.some.inj hR
  exact ret 1 (by decide) ⟨rfl, rfl⟩ (Nat.le_of_ble_eq_true rfl) (Nat.le_of_ble_eq_true rfl) dd_X9_start_0.2.2.2.2.2.2.2.1
def fX9_refuse_i (gth : Int32) (i1 : Int32) (i2 : Int32) : Option (Int32 × Int32) := ((((if i1 = 0 then some gth else (if gth = 0 then some i2 else some gth)) : Option (Int32))).bind fun r_3 => (if r_3 ≤ 0 then some (0, r_3) else some (1, r_3)))
set_option maxHeartbeats 4000000 in
set_option maxRecDepth 100000 in
theorem kX9_refuse_i (l : Launch) (D : va_G) (cy : Nat → ClassId) (g : Nat) (gth : Int32) (gw : Nat) (gB : Nat) (gK : Nat) (gU : Nat) (gS : Nat) (gbe : Int32) (gwo : Int32) (gta : Int64) (glr : Int32) (glc : Int32) (gti : Int32) (ggo : Int32) (gR : Nat) (gch : Int32) (gD : Nat) (i1 : Int32) (i2 : Int32) {res : Int32 × Int32} (hR : fX9_refuse_i gth i1 i2 = some res) : YM l D cy yX9_refuse hX9_refuse 1 0 0 [.ref g, .int i1, .int i2] [[(g, .inr (11, [.int gth, .ref gw, .ref gB, .ref gK, .ref gU, .ref gS, .int gbe, .int gwo, .long gta, .null, .int glr, .int glc, .int gti, .int ggo, .ref gR, .int gch, .ref gD]))]] (fun v u => v = some (.int res.1) ∧ u = [[(g, .inr (11, [.int res.2, .ref gw, .ref gB, .ref gK, .ref gU, .ref gS, .int gbe, .int gwo, .long gta, .null, .int glr, .int glc, .int gti, .int ggo, .ref gR, .int gch, .ref gD]))]]) := by
  unfold fX9_refuse_i at hR
  refine YM.ofZ (cc := cX9_refuse) (maxL := 3) (ret := (some .boolean)) (by decide +kernel) rfl (Nat.le_of_ble_eq_true rfl) [(0, .ref g), (1, .int i1), (2, .int i2)] rfl .boolean rfl (fun p e s m args below meth c A H0 Q C hnm ret => ?_)
  refine xr_iload_n (n := 1) (j := 1) C dd_X9_refuse_0.1 rfl rfl ?_
  obtain ⟨r_3, hE_3, hR⟩ := yf_b hR
  have J_3 : X p l e (yR 1 0 0) s m args below meth c D A H0 3 Q [[(g, .inr (11, [.int r_3, .ref gw, .ref gB, .ref gK, .ref gU, .ref gS, .int gbe, .int gwo, .long gta, .null, .int glr, .int glc, .int gti, .int ggo, .ref gR, .int gch, .ref gD]))]] 0 0 [(0, .ref g)] 16 [] := by
    refine xr_aload_n (n := 17) (j := 0) C dd_X9_refuse_0.2.2.2.2.2.2.2.2.1 rfl rfl ?_
    refine xr_get (n := 20) C 0 rfl rfl 0 (by decide) in_X9 u_1237 rfl (v := .int r_3) rfl dd_X9_refuse_0.2.2.2.2.2.2.2.2.2.1 rfl ?_
    refine xr_if_le (tgt := 27) (n := 23) C dd_X9_refuse_0.2.2.2.2.2.2.2.2.2.2.1 rfl rfl (fun c_4 => ?_) (fun c_4 => ?_)
    · replace hR := yf_t c_4 hR
      refine xr_iconst (n := 28) (v := 0) C dd_X9_refuse_0.2.2.2.2.2.2.2.2.2.2.2.2.2.1 rfl rfl ?_
      obtain rfl := Option.some.inj hR
      exact ret 0 (by decide) ⟨rfl, rfl⟩ (Nat.le_of_ble_eq_true rfl) (Nat.le_of_ble_eq_true rfl) dd_X9_refuse_0.2.2.2.2.2.2.2.2.2.2.2.2.2.2.1
    · replace hR := yf_f c_4 hR
      refine xr_iconst (n := 24) (v := 1) C dd_X9_refuse_0.2.2.2.2.2.2.2.2.2.2.2.1 rfl rfl ?_
      refine xr_goto (tgt := 28) C dd_X9_refuse_0.2.2.2.2.2.2.2.2.2.2.2.2.1 rfl ?_
      obtain rfl := Option.some.inj hR
      exact ret 1 (by decide) ⟨rfl, rfl⟩ (Nat.le_of_ble_eq_true rfl) (Nat.le_of_ble_eq_true rfl) dd_X9_refuse_0.2.2.2.2.2.2.2.2.2.2.2.2.2.2.1
  refine xr_if_eq (tgt := 16) (n := 4) C dd_X9_refuse_0.2.1 rfl rfl (fun c_5 => ?_) (fun c_5 => ?_)
  · replace hE_3 := yf_t c_5 hE_3
    refine xr_lv (lv' := [(0, .ref g)]) [0] rfl ?_
    have e_6 := Option.some.inj hE_3
    subst e_6
    exact J_3
  · replace hE_3 := yf_f c_5 hE_3
    refine xr_aload_n (n := 5) (j := 0) C dd_X9_refuse_0.2.2.1 rfl rfl ?_
    refine xr_get (n := 8) C 0 rfl rfl 0 (by decide) in_X9 u_1237 rfl (v := .int gth) rfl dd_X9_refuse_0.2.2.2.1 rfl ?_
    refine xr_if_ne (tgt := 16) (n := 11) C dd_X9_refuse_0.2.2.2.2.1 rfl rfl (fun c_7 => ?_) (fun c_7 => ?_)
    · replace hE_3 := yf_f c_7 hE_3
      refine xr_lv (lv' := [(0, .ref g)]) [0] rfl ?_
      have e_8 := Option.some.inj hE_3
      subst e_8
      exact J_3
    · replace hE_3 := yf_t c_7 hE_3
      refine xr_aload_n (n := 12) (j := 0) C dd_X9_refuse_0.2.2.2.2.2.1 rfl rfl ?_
      refine xr_iload_n (n := 13) (j := 2) C dd_X9_refuse_0.2.2.2.2.2.2.1 rfl rfl ?_
      refine xr_put (n := 16) C 0 rfl rfl 0 (by decide) in_X9 tyX9 tyX9_ok nmX9 u_1237 rfl rfl rfl rfl (Nat.le_of_ble_eq_true rfl) [[(g, .inr (11, [.int i2, .ref gw, .ref gB, .ref gK, .ref gU, .ref gS, .int gbe, .int gwo, .long gta, .null, .int glr, .int glc, .int gti, .int ggo, .ref gR, .int gch, .ref gD]))]] rfl rfl dd_X9_refuse_0.2.2.2.2.2.2.2.1 ?_
      refine xr_lv (lv' := [(0, .ref g)]) [0] rfl ?_
      have e_9 := Option.some.inj hE_3
      subst e_9
      exact J_3
def fX9_refuse_r (gth : Int32) (i1 : Int32) (i2 : Int32) : Option (Int32 × Int32) := ((((if i1 = 0 then some gth else (if gth = 0 then some i2 else some gth)) : Option (Int32))).bind fun r_3 => (if r_3 ≤ 0 then some (0, r_3) else some (1, r_3)))
set_option maxHeartbeats 4000000 in
set_option maxRecDepth 100000 in
theorem kX9_refuse_r (l : Launch) (D : va_G) (cy : Nat → ClassId) (g : Nat) (gth : Int32) (gw : Nat) (gB : Nat) (gK : Nat) (gU : Nat) (gS : Nat) (gbe : Int32) (gwo : Int32) (gta : Int64) (gn : Nat) (glr : Int32) (glc : Int32) (gti : Int32) (ggo : Int32) (gR : Nat) (gch : Int32) (gD : Nat) (i1 : Int32) (i2 : Int32) {res : Int32 × Int32} (hR : fX9_refuse_r gth i1 i2 = some res) : YM l D cy yX9_refuse hX9_refuse 1 0 0 [.ref g, .int i1, .int i2] [[(g, .inr (11, [.int gth, .ref gw, .ref gB, .ref gK, .ref gU, .ref gS, .int gbe, .int gwo, .long gta, .ref gn, .int glr, .int glc, .int gti, .int ggo, .ref gR, .int gch, .ref gD]))]] (fun v u => v = some (.int res.1) ∧ u = [[(g, .inr (11, [.int res.2, .ref gw, .ref gB, .ref gK, .ref gU, .ref gS, .int gbe, .int gwo, .long gta, .ref gn, .int glr, .int glc, .int gti, .int ggo, .ref gR, .int gch, .ref gD]))]]) := by
  unfold fX9_refuse_r at hR
  refine YM.ofZ (cc := cX9_refuse) (maxL := 3) (ret := (some .boolean)) (by decide +kernel) rfl (Nat.le_of_ble_eq_true rfl) [(0, .ref g), (1, .int i1), (2, .int i2)] rfl .boolean rfl (fun p e s m args below meth c A H0 Q C hnm ret => ?_)
  refine xr_iload_n (n := 1) (j := 1) C dd_X9_refuse_0.1 rfl rfl ?_
  obtain ⟨r_3, hE_3, hR⟩ := yf_b hR
  have J_3 : X p l e (yR 1 0 0) s m args below meth c D A H0 3 Q [[(g, .inr (11, [.int r_3, .ref gw, .ref gB, .ref gK, .ref gU, .ref gS, .int gbe, .int gwo, .long gta, .ref gn, .int glr, .int glc, .int gti, .int ggo, .ref gR, .int gch, .ref gD]))]] 0 0 [(0, .ref g)] 16 [] := by
    refine xr_aload_n (n := 17) (j := 0) C dd_X9_refuse_0.2.2.2.2.2.2.2.2.1 rfl rfl ?_
    refine xr_get (n := 20) C 0 rfl rfl 0 (by decide) in_X9 u_1237 rfl (v := .int r_3) rfl dd_X9_refuse_0.2.2.2.2.2.2.2.2.2.1 rfl ?_
    refine xr_if_le (tgt := 27) (n := 23) C dd_X9_refuse_0.2.2.2.2.2.2.2.2.2.2.1 rfl rfl (fun c_4 => ?_) (fun c_4 => ?_)
    · replace hR := yf_t c_4 hR
      refine xr_iconst (n := 28) (v := 0) C dd_X9_refuse_0.2.2.2.2.2.2.2.2.2.2.2.2.2.1 rfl rfl ?_
      obtain rfl := Option.some.inj hR
      exact ret 0 (by decide) ⟨rfl, rfl⟩ (Nat.le_of_ble_eq_true rfl) (Nat.le_of_ble_eq_true rfl) dd_X9_refuse_0.2.2.2.2.2.2.2.2.2.2.2.2.2.2.1
    · replace hR := yf_f c_4 hR
      refine xr_iconst (n := 24) (v := 1) C dd_X9_refuse_0.2.2.2.2.2.2.2.2.2.2.2.1 rfl rfl ?_
      refine xr_goto (tgt := 28) C dd_X9_refuse_0.2.2.2.2.2.2.2.2.2.2.2.2.1 rfl ?_
      obtain rfl := Option.some.inj hR
      exact ret 1 (by decide) ⟨rfl, rfl⟩ (Nat.le_of_ble_eq_true rfl) (Nat.le_of_ble_eq_true rfl) dd_X9_refuse_0.2.2.2.2.2.2.2.2.2.2.2.2.2.2.1
  refine xr_if_eq (tgt := 16) (n := 4) C dd_X9_refuse_0.2.1 rfl rfl (fun c_5 => ?_) (fun c_5 => ?_)
  · replace hE_3 := yf_t c_5 hE_3
    refine xr_lv (lv' := [(0, .ref g)]) [0] rfl ?_
    have e_6 := Option.some.inj hE_3
    subst e_6
    exact J_3
  · replace hE_3 := yf_f c_5 hE_3
    refine xr_aload_n (n := 5) (j := 0) C dd_X9_refuse_0.2.2.1 rfl rfl ?_
    refine xr_get (n := 8) C 0 rfl rfl 0 (by decide) in_X9 u_1237 rfl (v := .int gth) rfl dd_X9_refuse_0.2.2.2.1 rfl ?_
    refine xr_if_ne (tgt := 16) (n := 11) C dd_X9_refuse_0.2.2.2.2.1 rfl rfl (fun c_7 => ?_) (fun c_7 => ?_)
    · replace hE_3 := yf_f c_7 hE_3
      refine xr_lv (lv' := [(0, .ref g)]) [0] rfl ?_
      have e_8 := Option.some.inj hE_3
      subst e_8
      exact J_3
    · replace hE_3 := yf_t c_7 hE_3
      refine xr_aload_n (n := 12) (j := 0) C dd_X9_refuse_0.2.2.2.2.2.1 rfl rfl ?_
      refine xr_iload_n (n := 13) (j := 2) C dd_X9_refuse_0.2.2.2.2.2.2.1 rfl rfl ?_
      refine xr_put (n := 16) C 0 rfl rfl 0 (by decide) in_X9 tyX9 tyX9_ok nmX9 u_1237 rfl rfl rfl rfl (Nat.le_of_ble_eq_true rfl) [[(g, .inr (11, [.int i2, .ref gw, .ref gB, .ref gK, .ref gU, .ref gS, .int gbe, .int gwo, .long gta, .ref gn, .int glr, .int glc, .int gti, .int ggo, .ref gR, .int gch, .ref gD]))]] rfl rfl dd_X9_refuse_0.2.2.2.2.2.2.2.1 ?_
      refine xr_lv (lv' := [(0, .ref g)]) [0] rfl ?_
      have e_9 := Option.some.inj hE_3
      subst e_9
      exact J_3
def fX9_start_i (i1 : Int32) (i2 : Int32) : Option (Int32 × Int32) := ((fX9_refuse_i 0 i1 i2).bind fun x_1 => (if x_1.1 = 0 ∨ x_1.1 = 1 then some (x_1.1, x_1.2) else none))
set_option maxHeartbeats 4000000 in
set_option maxRecDepth 100000 in
theorem kX9_start_i (l : Launch) (D : va_G) (cy : Nat → ClassId) (g : Nat) (gth : Int32) (gw : Nat) (gB : Nat) (gK : Nat) (gU : Nat) (gS : Nat) (gbe : Int32) (gwo : Int32) (gta : Int64) (glr : Int32) (glc : Int32) (gti : Int32) (ggo : Int32) (gR : Nat) (gch : Int32) (gD : Nat) (i1 : Int32) (i2 : Int32) {res : Int32 × Int32} (hR : fX9_start_i i1 i2 = some res) : YM l D cy yX9_start hX9_start 2 0 0 [.ref g, .int i1, .int i2] [[(g, .inr (11, [.int gth, .ref gw, .ref gB, .ref gK, .ref gU, .ref gS, .int gbe, .int gwo, .long gta, .null, .int glr, .int glc, .int gti, .int ggo, .ref gR, .int gch, .ref gD]))]] (fun v u => v = some (.int res.1) ∧ u = [[(g, .inr (11, [.int res.2, .ref gw, .ref gB, .ref gK, .ref gU, .ref gS, .int gbe, .int gwo, .long gta, .null, .int glr, .int glc, .int gti, .int ggo, .ref gR, .int gch, .ref gD]))]]) := by
  unfold fX9_start_i at hR
  refine YM.ofZ (cc := cX9_start) (maxL := 3) (ret := (some .boolean)) (by decide +kernel) rfl (Nat.le_of_ble_eq_true rfl) [(0, .ref g), (1, .int i1), (2, .int i2)] rfl .boolean rfl (fun p e s m args below meth c A H0 Q C hnm ret => ?_)
  refine xr_aload_n (n := 1) (j := 0) C dd_X9_start_0.1 rfl rfl ?_
  refine xr_iconst (n := 2) (v := 0) C dd_X9_start_0.2.1 rfl rfl ?_
  refine xr_put (n := 5) C 0 rfl rfl 0 (by decide) in_X9 tyX9 tyX9_ok nmX9 u_1237 rfl rfl rfl rfl (Nat.le_of_ble_eq_true rfl) [[(g, .inr (11, [.int 0, .ref gw, .ref gB, .ref gK, .ref gU, .ref gS, .int gbe, .int gwo, .long gta, .null, .int glr, .int glc, .int gti, .int ggo, .ref gR, .int gch, .ref gD]))]] rfl rfl dd_X9_start_0.2.2.1 ?_
  refine xr_aload_n (n := 6) (j := 0) C dd_X9_start_0.2.2.2.1 rfl rfl ?_
  refine xr_iload_n (n := 7) (j := 1) C dd_X9_start_0.2.2.2.2.1 rfl rfl ?_
  refine xr_iload_n (n := 8) (j := 2) C dd_X9_start_0.2.2.2.2.2.1 rfl rfl ?_
  obtain ⟨x_1, hx_1, hR⟩ := yf_b hR
  refine xr_callV (n := 11) (As := [.int i1, .int i2]) (rest := []) C (kX9_refuse_i l D cy (g := g) (gth := 0) (gw := gw) (gB := gB) (gK := gK) (gU := gU) (gS := gS) (gbe := gbe) (gwo := gwo) (gta := gta) (glr := glr) (glc := glc) (gti := gti) (ggo := ggo) (gR := gR) (gch := gch) (gD := gD) (i1 := i1) (i2 := i2) hx_1) mX9_refuse u_1301 u_1303 u_30 0 rfl rfl 1 [0] [] rfl (by decide +kernel) rfl rfl rfl rfl (Nat.le_of_ble_eq_true rfl) (Nat.le_of_ble_eq_true rfl) (Nat.le_of_ble_eq_true rfl) (Nat.le_of_ble_eq_true rfl) (Nat.le_of_ble_eq_true rfl) dd_X9_start_0.2.2.2.2.2.2.1 rfl (fun v_2 u_3 hp_4 => ?_)
  obtain ⟨rfl, rfl⟩ := hp_4
  refine xr_perm C 1 [0] [] [[(g, .inr (11, [.int x_1.2, .ref gw, .ref gB, .ref gK, .ref gU, .ref gS, .int gbe, .int gwo, .long gta, .null, .int glr, .int glc, .int gti, .int ggo, .ref gR, .int gch, .ref gD]))]] rfl (by decide +kernel) rfl ?_
  refine xr_st (st' := [.int x_1.1]) rfl ?_
  obtain ⟨g_5, hR⟩ := yf_g hR
  obtain rfl := Option.some.inj hR
  exact ret x_1.1 (ynz_n g_5) ⟨rfl, rfl⟩ (Nat.le_of_ble_eq_true rfl) (Nat.le_of_ble_eq_true rfl) dd_X9_start_0.2.2.2.2.2.2.2.1
def fX9_start_r (i1 : Int32) (i2 : Int32) : Option (Int32 × Int32) := ((fX9_refuse_r 0 i1 i2).bind fun x_1 => (if x_1.1 = 0 ∨ x_1.1 = 1 then some (x_1.1, x_1.2) else none))
set_option maxHeartbeats 4000000 in
set_option maxRecDepth 100000 in
theorem kX9_start_r (l : Launch) (D : va_G) (cy : Nat → ClassId) (g : Nat) (gth : Int32) (gw : Nat) (gB : Nat) (gK : Nat) (gU : Nat) (gS : Nat) (gbe : Int32) (gwo : Int32) (gta : Int64) (gn : Nat) (glr : Int32) (glc : Int32) (gti : Int32) (ggo : Int32) (gR : Nat) (gch : Int32) (gD : Nat) (i1 : Int32) (i2 : Int32) {res : Int32 × Int32} (hR : fX9_start_r i1 i2 = some res) : YM l D cy yX9_start hX9_start 2 0 0 [.ref g, .int i1, .int i2] [[(g, .inr (11, [.int gth, .ref gw, .ref gB, .ref gK, .ref gU, .ref gS, .int gbe, .int gwo, .long gta, .ref gn, .int glr, .int glc, .int gti, .int ggo, .ref gR, .int gch, .ref gD]))]] (fun v u => v = some (.int res.1) ∧ u = [[(g, .inr (11, [.int res.2, .ref gw, .ref gB, .ref gK, .ref gU, .ref gS, .int gbe, .int gwo, .long gta, .ref gn, .int glr, .int glc, .int gti, .int ggo, .ref gR, .int gch, .ref gD]))]]) := by
  unfold fX9_start_r at hR
  refine YM.ofZ (cc := cX9_start) (maxL := 3) (ret := (some .boolean)) (by decide +kernel) rfl (Nat.le_of_ble_eq_true rfl) [(0, .ref g), (1, .int i1), (2, .int i2)] rfl .boolean rfl (fun p e s m args below meth c A H0 Q C hnm ret => ?_)
  refine xr_aload_n (n := 1) (j := 0) C dd_X9_start_0.1 rfl rfl ?_
  refine xr_iconst (n := 2) (v := 0) C dd_X9_start_0.2.1 rfl rfl ?_
  refine xr_put (n := 5) C 0 rfl rfl 0 (by decide) in_X9 tyX9 tyX9_ok nmX9 u_1237 rfl rfl rfl rfl (Nat.le_of_ble_eq_true rfl) [[(g, .inr (11, [.int 0, .ref gw, .ref gB, .ref gK, .ref gU, .ref gS, .int gbe, .int gwo, .long gta, .ref gn, .int glr, .int glc, .int gti, .int ggo, .ref gR, .int gch, .ref gD]))]] rfl rfl dd_X9_start_0.2.2.1 ?_
  refine xr_aload_n (n := 6) (j := 0) C dd_X9_start_0.2.2.2.1 rfl rfl ?_
  refine xr_iload_n (n := 7) (j := 1) C dd_X9_start_0.2.2.2.2.1 rfl rfl ?_
  refine xr_iload_n (n := 8) (j := 2) C dd_X9_start_0.2.2.2.2.2.1 rfl rfl ?_
  obtain ⟨x_1, hx_1, hR⟩ := yf_b hR
  refine xr_callV (n := 11) (As := [.int i1, .int i2]) (rest := []) C (kX9_refuse_r l D cy (g := g) (gth := 0) (gw := gw) (gB := gB) (gK := gK) (gU := gU) (gS := gS) (gbe := gbe) (gwo := gwo) (gta := gta) (gn := gn) (glr := glr) (glc := glc) (gti := gti) (ggo := ggo) (gR := gR) (gch := gch) (gD := gD) (i1 := i1) (i2 := i2) hx_1) mX9_refuse u_1301 u_1303 u_30 0 rfl rfl 1 [0] [] rfl (by decide +kernel) rfl rfl rfl rfl (Nat.le_of_ble_eq_true rfl) (Nat.le_of_ble_eq_true rfl) (Nat.le_of_ble_eq_true rfl) (Nat.le_of_ble_eq_true rfl) (Nat.le_of_ble_eq_true rfl) dd_X9_start_0.2.2.2.2.2.2.1 rfl (fun v_2 u_3 hp_4 => ?_)
  obtain ⟨rfl, rfl⟩ := hp_4
  refine xr_perm C 1 [0] [] [[(g, .inr (11, [.int x_1.2, .ref gw, .ref gB, .ref gK, .ref gU, .ref gS, .int gbe, .int gwo, .long gta, .ref gn, .int glr, .int glc, .int gti, .int ggo, .ref gR, .int gch, .ref gD]))]] rfl (by decide +kernel) rfl ?_
  refine xr_st (st' := [.int x_1.1]) rfl ?_
  obtain ⟨g_5, hR⟩ := yf_g hR
  obtain rfl := Option.some.inj hR
  exact ret x_1.1 (ynz_n g_5) ⟨rfl, rfl⟩ (Nat.le_of_ble_eq_true rfl) (Nat.le_of_ble_eq_true rfl) dd_X9_start_0.2.2.2.2.2.2.2.1
theorem dd_X9_others_0 : dk_R cX9_others [(0, .iconst 0, 1), (1, .istore_n 1, 1), (2, .aload_n 0, 1), (3, .astore_n 2, 1), (4, .aload_n 2, 1), (5, .arraylength, 1), (6, .istore_n 3, 1), (7, .iconst 0, 1), (8, .istore 4, 2), (10, .iload 4, 2), (12, .iload_n 3, 1), (13, .if_icmp .ge 63, 3), (16, .aload_n 2, 1), (17, .iload 4, 2), (19, .aaload, 1), (20, .astore 5, 2)] := dk_use _ _ (by decide +kernel)
theorem dd_X9_others_1 : dk_R cX9_others [(22, .aload 5, 2), (24, .astore 6, 2), (26, .aload 6, 2), (28, .arraylength, 1), (29, .istore 7, 2), (31, .iconst 0, 1), (32, .istore 8, 2), (34, .iload 8, 2), (36, .iload 7, 2), (38, .if_icmp .ge 32, 3), (41, .aload 6, 2), (43, .iload 8, 2), (45, .iaload, 1), (46, .istore 9, 2), (48, .iload_n 1, 1), (49, .iload 9, 2)] := dk_use _ _ (by decide +kernel)
theorem dd_X9_others_2 : dk_R cX9_others [(51, .ifCond .eq 7, 3), (54, .iconst 1, 1), (55, .goto 4, 3), (58, .iconst 0, 1), (59, .invokestatic 71, 3), (62, .iadd, 1), (63, .istore_n 1, 1), (64, .iinc 8 1, 3), (67, .goto (-33), 3), (70, .iinc 4 1, 3), (73, .goto (-63), 3), (76, .iload_n 1, 1), (77, .ireturn, 1)] := dk_use _ _ (by decide +kernel)
def fX9_others (hn : Nat) (hk : Nat) (hG : Nat → Nat → Int32) : Option (Int32) := ((wl (S := Int32 × Int32) (B := Int32 × Int32) (fun s_1 => (if (nI hn) ≤ s_1.2 then some (.inr (s_1.1, s_1.2)) else (if ¬ (s_1.2 < 0 ∨ hn ≤ s_1.2.toNatClampNeg) then ((wl (S := Int32 × Int32) (B := Int32 × Int32) (fun s_5 => (if (nI hk) ≤ s_5.2 then some (.inr (s_5.1, s_5.2)) else (if ¬ (s_5.2 < 0 ∨ hk ≤ s_5.2.toNatClampNeg) then (ylet (hG s_1.2.toNatClampNeg s_5.2.toNatClampNeg : Int32) fun y_9 => ((((if y_9 = 0 then some 0 else some 1) : Option (Int32))).bind fun r_11 => ((fX9_one r_11).bind fun x_12 => some (.inl (s_5.1 + x_12, s_5.2 + 1))))) else none))) yFuel (s_1.1, 0)).bind fun b_5 => some (.inl (b_5.1, s_1.2 + 1))) else none))) yFuel (0, 0)).bind fun b_1 => some b_1.1)
abbrev hX9_others : Cond := .code yX9_others cX9_others 10 (some .int)
theorem mX9_others : yM yX9_others hX9_others 1 := ⟨u_1307, u_64, by decide +kernel, by decide +kernel, by decide +kernel⟩
set_option maxHeartbeats 4000000 in
set_option maxRecDepth 100000 in
theorem kX9_others (l : Launch) (D : va_G) (cy : Nat → ClassId) (h : Nat) (hd : Nat → Nat) (hn : Nat) (hk : Nat) (hG : Nat → Nat → Int32) {res : Int32} (hR : fX9_others hn hk hG = some res) : YM l D cy yX9_others hX9_others 2 0 0 [.ref h] [[(h, .inl (cy 3, hn, .inr (.inr (.inr (.inr (yad hd))))))], xg_rows hd hn (cy 1) hk hG] (fun v u => v = some (.int res) ∧ u = [[(h, .inl (cy 3, hn, .inr (.inr (.inr (.inr (yad hd))))))], xg_rows hd hn (cy 1) hk hG]) := by
  unfold fX9_others at hR
  refine YM.ofI (cc := cX9_others) (maxL := 10) (ret := (some .int)) (by decide +kernel) rfl (Nat.le_of_ble_eq_true rfl) [(0, .ref h)] rfl rfl (fun p e s m args below meth c A H0 Q C hnm ret => ?_)
  refine xr_iconst (n := 1) (v := 0) C dd_X9_others_0.1 rfl rfl ?_
  refine xr_istore_n (n := 2) C [(1, .int 0), (0, .ref h)] dd_X9_others_0.2.1 (by decide) rfl rfl ?_
  refine xr_aload_n (n := 3) (j := 1) C dd_X9_others_0.2.2.1 rfl rfl ?_
  refine xr_astore_n (n := 4) C [(2, .ref h), (1, .int 0), (0, .ref h)] dd_X9_others_0.2.2.2.1 (by decide) rfl rfl ?_
  refine xr_aload_n (n := 5) (j := 0) C dd_X9_others_0.2.2.2.2.1 rfl rfl ?_
  refine xr_alen (n := 6) C 0 0 rfl 3 rfl rfl dd_X9_others_0.2.2.2.2.2.1 rfl ?_
  refine xr_istore_n (n := 7) C [(3, .int (nI hn)), (2, .ref h), (1, .int 0), (0, .ref h)] dd_X9_others_0.2.2.2.2.2.2.1 (by decide) rfl rfl ?_
  refine xr_iconst (n := 8) (v := 0) C dd_X9_others_0.2.2.2.2.2.2.2.1 rfl rfl ?_
  refine xr_istore (n := 10) C [(4, .int 0), (3, .int (nI hn)), (2, .ref h), (1, .int 0), (0, .ref h)] dd_X9_others_0.2.2.2.2.2.2.2.2.1 (by decide) rfl rfl ?_
  refine xr_lv (lv' := [(1, .int 0), (2, .ref h), (3, .int (nI hn)), (4, .int 0)]) [3, 2, 1, 0] rfl ?_
  obtain ⟨b_1, hb_1, hR⟩ := yf_b hR
  have K_1 : X p l e (yR 2 0 0) s m args below meth c D A H0 10 Q [[(h, .inl (cy 3, hn, .inr (.inr (.inr (.inr (yad hd))))))], xg_rows hd hn (cy 1) hk hG] 0 0 [(1, .int b_1.1)] 76 [] := by
    refine xr_iload_n (n := 77) (j := 0) C dd_X9_others_2.2.2.2.2.2.2.2.2.2.2.2.1 rfl rfl ?_
    obtain rfl := Option.some.inj hR
    exact ret b_1.1 ⟨rfl, rfl⟩ (Nat.le_of_ble_eq_true rfl) (Nat.le_of_ble_eq_true rfl) dd_X9_others_2.2.2.2.2.2.2.2.2.2.2.2.2.1
  refine y_loop (P := fun (s_1 : Int32 × Int32) => X p l e (yR 2 0 0) s m args below meth c D A H0 10 Q [[(h, .inl (cy 3, hn, .inr (.inr (.inr (.inr (yad hd))))))], xg_rows hd hn (cy 1) hk hG] 0 0 [(1, .int s_1.1), (2, .ref h), (3, .int (nI hn)), (4, .int s_1.2)] 10 []) ?_ _ (0, 0) hb_1
  intro s_1 o_1 ho_1 hk_1 hx_1
  refine xr_iload (n := 12) (j := 3) C dd_X9_others_0.2.2.2.2.2.2.2.2.2.1 rfl rfl ?_
  refine xr_iload_n (n := 13) (j := 2) C dd_X9_others_0.2.2.2.2.2.2.2.2.2.2.1 rfl rfl ?_
  refine xr_icmp_ge (tgt := 76) (n := 16) C dd_X9_others_0.2.2.2.2.2.2.2.2.2.2.2.1 rfl rfl (fun c_2 => ?_) (fun c_2 => ?_)
  · replace ho_1 := yf_t c_2 ho_1
    refine xr_lv (lv' := [(1, .int s_1.1)]) [0] rfl ?_
    have e_3 := hx_1 _ (Option.some.inj ho_1).symm
    subst e_3
    exact K_1
  · replace ho_1 := yf_f c_2 ho_1
    refine xr_aload_n (n := 17) (j := 1) C dd_X9_others_0.2.2.2.2.2.2.2.2.2.2.2.2.1 rfl rfl ?_
    refine xr_iload (n := 19) (j := 3) C dd_X9_others_0.2.2.2.2.2.2.2.2.2.2.2.2.2.1 rfl rfl ?_
    obtain ⟨g_4, ho_1⟩ := yf_g ho_1
    refine xr_aald (n := 20) C 0 0 rfl 3 rfl rfl g_4 rfl dd_X9_others_0.2.2.2.2.2.2.2.2.2.2.2.2.2.2.1 rfl ?_
    refine xr_astore (n := 22) C [(5, .ref (hd s_1.2.toNatClampNeg)), (1, .int s_1.1), (2, .ref h), (3, .int (nI hn)), (4, .int s_1.2)] dd_X9_others_0.2.2.2.2.2.2.2.2.2.2.2.2.2.2.2.1 (by decide) rfl rfl ?_
    refine xr_aload (n := 24) (j := 0) C dd_X9_others_1.1 rfl rfl ?_
    refine xr_astore (n := 26) C [(6, .ref (hd s_1.2.toNatClampNeg)), (5, .ref (hd s_1.2.toNatClampNeg)), (1, .int s_1.1), (2, .ref h), (3, .int (nI hn)), (4, .int s_1.2)] dd_X9_others_1.2.1 (by decide) rfl rfl ?_
    refine xr_aload (n := 28) (j := 0) C dd_X9_others_1.2.2.1 rfl rfl ?_
    refine xr_aleng (n := 29) C 1 1 rfl s_1.2.toNatClampNeg (ylt g_4) rfl dd_X9_others_1.2.2.2.1 rfl ?_
    refine xr_istore (n := 31) C [(7, .int (nI hk)), (6, .ref (hd s_1.2.toNatClampNeg)), (5, .ref (hd s_1.2.toNatClampNeg)), (1, .int s_1.1), (2, .ref h), (3, .int (nI hn)), (4, .int s_1.2)] dd_X9_others_1.2.2.2.2.1 (by decide) rfl rfl ?_
    refine xr_iconst (n := 32) (v := 0) C dd_X9_others_1.2.2.2.2.2.1 rfl rfl ?_
    refine xr_istore (n := 34) C [(8, .int 0), (7, .int (nI hk)), (6, .ref (hd s_1.2.toNatClampNeg)), (5, .ref (hd s_1.2.toNatClampNeg)), (1, .int s_1.1), (2, .ref h), (3, .int (nI hn)), (4, .int s_1.2)] dd_X9_others_1.2.2.2.2.2.2.1 (by decide) rfl rfl ?_
    refine xr_lv (lv' := [(1, .int s_1.1), (2, .ref h), (3, .int (nI hn)), (4, .int s_1.2), (6, .ref (hd s_1.2.toNatClampNeg)), (7, .int (nI hk)), (8, .int 0)]) [4, 5, 6, 7, 2, 1, 0] rfl ?_
    obtain ⟨b_5, hb_5, ho_1⟩ := yf_b ho_1
    have K_5 : X p l e (yR 2 0 0) s m args below meth c D A H0 10 Q [[(h, .inl (cy 3, hn, .inr (.inr (.inr (.inr (yad hd))))))], xg_rows hd hn (cy 1) hk hG] 0 0 [(1, .int b_5.1), (2, .ref h), (3, .int (nI hn)), (4, .int s_1.2)] 70 [] := by
      refine xr_iinc (j := 3) (v := s_1.2 + 1) (n := 73) C [(4, .int (s_1.2 + 1)), (1, .int b_5.1), (2, .ref h), (3, .int (nI hn))] dd_X9_others_2.2.2.2.2.2.2.2.2.2.1 rfl rfl (by decide) rfl rfl ?_
      refine xr_goto (tgt := 10) C dd_X9_others_2.2.2.2.2.2.2.2.2.2.2.1 rfl ?_
      refine xr_lv (lv' := [(1, .int b_5.1), (2, .ref h), (3, .int (nI hn)), (4, .int (s_1.2 + 1))]) [1, 2, 3, 0] rfl ?_
      exact hk_1 (b_5.1, s_1.2 + 1) (Option.some.inj ho_1).symm
    refine y_loop (P := fun (s_5 : Int32 × Int32) => X p l e (yR 2 0 0) s m args below meth c D A H0 10 Q [[(h, .inl (cy 3, hn, .inr (.inr (.inr (.inr (yad hd))))))], xg_rows hd hn (cy 1) hk hG] 0 0 [(1, .int s_5.1), (2, .ref h), (3, .int (nI hn)), (4, .int s_1.2), (6, .ref (hd s_1.2.toNatClampNeg)), (7, .int (nI hk)), (8, .int s_5.2)] 34 []) ?_ _ (s_1.1, 0) hb_5
    intro s_5 o_5 ho_5 hk_5 hx_5
    refine xr_iload (n := 36) (j := 6) C dd_X9_others_1.2.2.2.2.2.2.2.1 rfl rfl ?_
    refine xr_iload (n := 38) (j := 5) C dd_X9_others_1.2.2.2.2.2.2.2.2.1 rfl rfl ?_
    refine xr_icmp_ge (tgt := 70) (n := 41) C dd_X9_others_1.2.2.2.2.2.2.2.2.2.1 rfl rfl (fun c_6 => ?_) (fun c_6 => ?_)
    · replace ho_5 := yf_t c_6 ho_5
      refine xr_lv (lv' := [(1, .int s_5.1), (2, .ref h), (3, .int (nI hn)), (4, .int s_1.2)]) [0, 1, 2, 3] rfl ?_
      have e_7 := hx_5 _ (Option.some.inj ho_5).symm
      subst e_7
      exact K_5
    · replace ho_5 := yf_f c_6 ho_5
      refine xr_aload (n := 43) (j := 4) C dd_X9_others_1.2.2.2.2.2.2.2.2.2.2.1 rfl rfl ?_
      refine xr_iload (n := 45) (j := 6) C dd_X9_others_1.2.2.2.2.2.2.2.2.2.2.2.1 rfl rfl ?_
      obtain ⟨g_8, ho_5⟩ := yf_g ho_5
      refine xr_ialdg (n := 46) C 1 rfl s_1.2.toNatClampNeg (ylt g_4) g_8 dd_X9_others_1.2.2.2.2.2.2.2.2.2.2.2.2.1 rfl ?_
      obtain ⟨y_9, ey_9, ho_5⟩ := yf_l ho_5
      refine xr_topI ey_9 ?_
      refine xr_istore (n := 48) C [(9, .int y_9), (1, .int s_5.1), (2, .ref h), (3, .int (nI hn)), (4, .int s_1.2), (6, .ref (hd s_1.2.toNatClampNeg)), (7, .int (nI hk)), (8, .int s_5.2)] dd_X9_others_1.2.2.2.2.2.2.2.2.2.2.2.2.2.1 (by decide) rfl rfl ?_
      refine xr_iload_n (n := 49) (j := 1) C dd_X9_others_1.2.2.2.2.2.2.2.2.2.2.2.2.2.2.1 rfl rfl ?_
      refine xr_iload (n := 51) (j := 0) C dd_X9_others_1.2.2.2.2.2.2.2.2.2.2.2.2.2.2.2.1 rfl rfl ?_
      obtain ⟨r_11, hE_11, ho_5⟩ := yf_b ho_5
      have J_11 : X p l e (yR 2 0 0) s m args below meth c D A H0 10 Q [[(h, .inl (cy 3, hn, .inr (.inr (.inr (.inr (yad hd))))))], xg_rows hd hn (cy 1) hk hG] 0 0 [(2, .ref h), (3, .int (nI hn)), (4, .int s_1.2), (6, .ref (hd s_1.2.toNatClampNeg)), (7, .int (nI hk)), (8, .int s_5.2)] 59 [.int r_11, .int s_5.1] := by
        obtain ⟨x_12, hx_12, ho_5⟩ := yf_b ho_5
        refine xr_callSp (n := 62) (As := [.int r_11]) (rest := [.int s_5.1]) C (kX9_one l D cy (i1 := r_11) hx_12) mX9_one u_1308 u_1309 2 [] [0, 1] rfl (by decide +kernel) rfl rfl rfl rfl (Nat.le_of_ble_eq_true rfl) (Nat.le_of_ble_eq_true rfl) (Nat.le_of_ble_eq_true rfl) (Nat.le_of_ble_eq_true rfl) (Nat.le_of_ble_eq_true rfl) dd_X9_others_2.2.2.2.2.1 rfl (fun _ _ hp => hp.2) (fun v_13 hp_15 => ?_)
        obtain ⟨rfl, -⟩ := hp_15
        refine xr_st (st' := [.int x_12, .int s_5.1]) rfl ?_
        refine xr_iadd (n := 63) C dd_X9_others_2.2.2.2.2.2.1 rfl ?_
        refine xr_istore_n (n := 64) C [(1, .int (s_5.1 + x_12)), (2, .ref h), (3, .int (nI hn)), (4, .int s_1.2), (6, .ref (hd s_1.2.toNatClampNeg)), (7, .int (nI hk)), (8, .int s_5.2)] dd_X9_others_2.2.2.2.2.2.2.1 (by decide) rfl rfl ?_
        refine xr_iinc (j := 6) (v := s_5.2 + 1) (n := 67) C [(8, .int (s_5.2 + 1)), (1, .int (s_5.1 + x_12)), (2, .ref h), (3, .int (nI hn)), (4, .int s_1.2), (6, .ref (hd s_1.2.toNatClampNeg)), (7, .int (nI hk))] dd_X9_others_2.2.2.2.2.2.2.2.1 rfl rfl (by decide) rfl rfl ?_
        refine xr_goto (tgt := 34) C dd_X9_others_2.2.2.2.2.2.2.2.2.1 rfl ?_
        refine xr_lv (lv' := [(1, .int (s_5.1 + x_12)), (2, .ref h), (3, .int (nI hn)), (4, .int s_1.2), (6, .ref (hd s_1.2.toNatClampNeg)), (7, .int (nI hk)), (8, .int (s_5.2 + 1))]) [1, 2, 3, 4, 5, 6, 0] rfl ?_
        exact hk_5 (s_5.1 + x_12, s_5.2 + 1) (Option.some.inj ho_5).symm
      refine xr_if_eq (tgt := 58) (n := 54) C dd_X9_others_2.1 rfl rfl (fun c_16 => ?_) (fun c_16 => ?_)
      · replace hE_11 := yf_t c_16 hE_11
        refine xr_iconst (n := 59) (v := 0) C dd_X9_others_2.2.2.2.1 rfl rfl ?_
        refine xr_lv (lv' := [(2, .ref h), (3, .int (nI hn)), (4, .int s_1.2), (6, .ref (hd s_1.2.toNatClampNeg)), (7, .int (nI hk)), (8, .int s_5.2)]) [2, 3, 4, 5, 6, 7] rfl ?_
        have e_17 := Option.some.inj hE_11
        subst e_17
        exact J_11
      · replace hE_11 := yf_f c_16 hE_11
        refine xr_iconst (n := 55) (v := 1) C dd_X9_others_2.2.1 rfl rfl ?_
        refine xr_goto (tgt := 59) C dd_X9_others_2.2.2.1 rfl ?_
        refine xr_lv (lv' := [(2, .ref h), (3, .int (nI hn)), (4, .int s_1.2), (6, .ref (hd s_1.2.toNatClampNeg)), (7, .int (nI hk)), (8, .int s_5.2)]) [2, 3, 4, 5, 6, 7] rfl ?_
        have e_18 := Option.some.inj hE_11
        subst e_18
        exact J_11
