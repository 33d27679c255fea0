theorem u_1309 : Cond.methodLink RX9 82 yX9_others ∈ yU := yu_tables_1_6 53 (by decide +kernel) (by decide +kernel)
theorem u_1310 : Cond.static yX9_others ∈ yU := yu_tables_1_6 54 (by decide +kernel) (by decide +kernel)
theorem u_1233 : Cond.methodLink RX9 44 yX9_lay ∈ yU := yu_tables_1_5 217 (by decide +kernel) (by decide +kernel)
theorem u_1235 : Cond.instanceMethod yX9_lay ∈ yU := yu_tables_1_5 219 (by decide +kernel) (by decide +kernel)
theorem u_28 : Cond.selects RX9 yX9_lay yX9_lay ∈ yU := yu 28 (by decide +kernel) (by decide +kernel)
theorem u_1297 : Cond.code yX9_shape cX9_shape 5 (some .int) ∈ yU := yu_tables_1_6 41 (by decide +kernel) (by decide +kernel)
theorem u_1358 : Cond.code yX9_bestLayout cX9_bestLayout 7 (some (.array .int)) ∈ yU := yu_tables_1_6 102 (by decide +kernel) (by decide +kernel)
def fX9_lay_r (i1 : Int32) (i2 : Int32) (i3 : Int32) : Option (Int32 × Int32 × Int32 × Nat × Nat × (Nat → Nat → Int32) × Nat × Nat × (Nat → Nat → Int32)) := (if ¬ i1 < 0 ∧ ¬ i2 < 0 ∧ i1.toNatClampNeg ≤ 9 ∧ i2.toNatClampNeg ≤ 9 then (if ¬ i2 < 0 ∧ ¬ i3 < 0 ∧ i2.toNatClampNeg ≤ 9 ∧ i3.toNatClampNeg ≤ 9 then some (i1, i2, i3, i1.toNatClampNeg, i2.toNatClampNeg, fun _ _ => 0, i2.toNatClampNeg, i3.toNatClampNeg, fun _ _ => 0) else none) else none)
set_option maxHeartbeats 4000000 in
set_option maxRecDepth 100000 in
theorem kX9_lay_r (l : Launch) (D : va_G) (cy : Nat → ClassId) (g : Nat) (gth : Int32) (gw : Nat) (gB : Nat) (gK : Nat) (gU : Nat) (gS : Nat) (gbe : Int32) (gwo : Int32) (gta : Int64) (gn : Nat) (glr : Int32) (glc : Int32) (gti : Int32) (ggo : Int32) (gR : Nat) (gch : Int32) (gD : Nat) (gwr : Int32) (gwk : Int32) (gwc : Int32) (gwg : Int32) (gws : Int32) (gwa : Nat) (gwb : Nat) (i1 : Int32) (i2 : Int32) (i3 : Int32) {res : Int32 × Int32 × Int32 × Nat × Nat × (Nat → Nat → Int32) × Nat × Nat × (Nat → Nat → Int32)} (hR : fX9_lay_r i1 i2 i3 = some res) : YM l D cy yX9_lay hX9_lay 1 20 180 [.ref g, .int i1, .int i2, .int i3] [[(g, .inr (11, [.int gth, .ref gw, .ref gB, .ref gK, .ref gU, .ref gS, .int gbe, .int gwo, .long gta, .ref gn, .int glr, .int glc, .int gti, .int ggo, .ref gR, .int gch, .ref gD]))], [(gw, .inr (10, [.int gwr, .int gwk, .int gwc, .int gwg, .int gws, .ref gwa, .ref gwb]))]] (fun v u => ∃ gwa : Nat, ∃ gwb : Nat, ∃ gwad : Nat → Nat, ∃ gwbd : Nat → Nat, v = none ∧ u = [[(g, .inr (11, [.int gth, .ref gw, .ref gB, .ref gK, .ref gU, .ref gS, .int gbe, .int gwo, .long gta, .ref gn, .int glr, .int glc, .int gti, .int ggo, .ref gR, .int gch, .ref gD]))], [(gw, .inr (10, [.int res.1, .int res.2.1, .int res.2.2.1, .int gwg, .int gws, .ref gwa, .ref gwb]))], [(gwa, .inl (cy 3, res.2.2.2.1, .inr (.inr (.inr (.inr (yad gwad))))))], xg_rows gwad res.2.2.2.1 (cy 1) res.2.2.2.2.1 res.2.2.2.2.2.1, [(gwb, .inl (cy 3, res.2.2.2.2.2.2.1, .inr (.inr (.inr (.inr (yad gwbd))))))], xg_rows gwbd res.2.2.2.2.2.2.1 (cy 1) res.2.2.2.2.2.2.2.1 res.2.2.2.2.2.2.2.2]) := by
  unfold fX9_lay_r at hR
  refine YM.ofV (cc := cX9_lay) (maxL := 4) (ret := none) (by decide +kernel) rfl (Nat.le_of_ble_eq_true rfl) [(0, .ref g), (1, .int i1), (2, .int i2), (3, .int i3)] rfl rfl (fun p e s m args below meth c A H0 Q C hnm ret => ?_)
  refine xr_aload_n (n := 1) (j := 0) C dd_X9_lay_0.1 rfl rfl ?_
  refine xr_get (n := 4) C 0 rfl rfl 1 (by decide) in_X9 u_1238 rfl (v := .ref gw) rfl dd_X9_lay_0.2.1 rfl ?_
  refine xr_iload_n (n := 5) (j := 1) C dd_X9_lay_0.2.2.1 rfl rfl ?_
  refine xr_put (n := 8) C 1 rfl rfl 0 (by decide) in_X8 tyX8 tyX8_ok nmX8 u_1201 rfl rfl rfl rfl (Nat.le_of_ble_eq_true rfl) [[(g, .inr (11, [.int gth, .ref gw, .ref gB, .ref gK, .ref gU, .ref gS, .int gbe, .int gwo, .long gta, .ref gn, .int glr, .int glc, .int gti, .int ggo, .ref gR, .int gch, .ref gD]))], [(gw, .inr (10, [.int i1, .int gwk, .int gwc, .int gwg, .int gws, .ref gwa, .ref gwb]))]] rfl rfl dd_X9_lay_0.2.2.2.1 ?_
  refine xr_aload_n (n := 9) (j := 0) C dd_X9_lay_0.2.2.2.2.1 rfl rfl ?_
  refine xr_get (n := 12) C 0 rfl rfl 1 (by decide) in_X9 u_1238 rfl (v := .ref gw) rfl dd_X9_lay_0.2.2.2.2.2.1 rfl ?_
  refine xr_iload_n (n := 13) (j := 2) C dd_X9_lay_0.2.2.2.2.2.2.1 rfl rfl ?_
  refine xr_put (n := 16) C 1 rfl rfl 1 (by decide) in_X8 tyX8 tyX8_ok nmX8 u_1202 rfl rfl rfl rfl (Nat.le_of_ble_eq_true rfl) [[(g, .inr (11, [.int gth, .ref gw, .ref gB, .ref gK, .ref gU, .ref gS, .int gbe, .int gwo, .long gta, .ref gn, .int glr, .int glc, .int gti, .int ggo, .ref gR, .int gch, .ref gD]))], [(gw, .inr (10, [.int i1, .int i2, .int gwc, .int gwg, .int gws, .ref gwa, .ref gwb]))]] rfl rfl dd_X9_lay_0.2.2.2.2.2.2.2.1 ?_
  refine xr_aload_n (n := 17) (j := 0) C dd_X9_lay_0.2.2.2.2.2.2.2.2.1 rfl rfl ?_
  refine xr_get (n := 20) C 0 rfl rfl 1 (by decide) in_X9 u_1238 rfl (v := .ref gw) rfl dd_X9_lay_0.2.2.2.2.2.2.2.2.2.1 rfl ?_
  refine xr_iload_n (n := 21) (j := 3) C dd_X9_lay_0.2.2.2.2.2.2.2.2.2.2.1 rfl rfl ?_
  refine xr_put (n := 24) C 1 rfl rfl 2 (by decide) in_X8 tyX8 tyX8_ok nmX8 u_1205 rfl rfl rfl rfl (Nat.le_of_ble_eq_true rfl) [[(g, .inr (11, [.int gth, .ref gw, .ref gB, .ref gK, .ref gU, .ref gS, .int gbe, .int gwo, .long gta, .ref gn, .int glr, .int glc, .int gti, .int ggo, .ref gR, .int gch, .ref gD]))], [(gw, .inr (10, [.int i1, .int i2, .int i3, .int gwg, .int gws, .ref gwa, .ref gwb]))]] rfl rfl dd_X9_lay_0.2.2.2.2.2.2.2.2.2.2.2.1 ?_
  refine xr_aload_n (n := 25) (j := 0) C dd_X9_lay_0.2.2.2.2.2.2.2.2.2.2.2.2.1 rfl rfl ?_
  refine xr_get (n := 28) C 0 rfl rfl 1 (by decide) in_X9 u_1238 rfl (v := .ref gw) rfl dd_X9_lay_0.2.2.2.2.2.2.2.2.2.2.2.2.2.1 rfl ?_
  refine xr_iload_n (n := 29) (j := 1) C dd_X9_lay_0.2.2.2.2.2.2.2.2.2.2.2.2.2.2.1 rfl rfl ?_
  refine xr_iload_n (n := 30) (j := 2) C dd_X9_lay_0.2.2.2.2.2.2.2.2.2.2.2.2.2.2.2.1 rfl rfl ?_
  obtain ⟨g_3, hR⟩ := yf_g hR
  refine xr_mnaI (n := 34) (N' := i1.toNatClampNeg) (K' := i2.toNatClampNeg) (cb := 10) (sb := 90) C u_1231 (by decide) u_108 g_3.1 g_3.2.1 rfl rfl g_3.2.2.1 g_3.2.2.2 (by have := g_3.2.2.1; omega) (ymul9 g_3.2.2.1 g_3.2.2.2) (Nat.le_of_ble_eq_true rfl) (Nat.le_of_ble_eq_true rfl) dX9_lay_30 rfl (fun q_1 ad_2 => ?_)
  refine xr_eq (bs' := [[(g, .inr (11, [.int gth, .ref gw, .ref gB, .ref gK, .ref gU, .ref gS, .int gbe, .int gwo, .long gta, .ref gn, .int glr, .int glc, .int gti, .int ggo, .ref gR, .int gch, .ref gD]))], [(gw, .inr (10, [.int i1, .int i2, .int i3, .int gwg, .int gws, .ref gwa, .ref gwb]))], [(q_1, .inl (cy 3, i1.toNatClampNeg, .inr (.inr (.inr (.inr (yad ad_2))))))], xg_rows ad_2 i1.toNatClampNeg (cy 1) i2.toNatClampNeg (fun _ _ => 0)]) rfl ?_
  refine xr_put (n := 37) C 1 rfl rfl 5 (by decide) in_X8 tyX8 tyX8_ok nmX8 u_1211 rfl rfl rfl rfl (Nat.le_of_ble_eq_true rfl) [[(g, .inr (11, [.int gth, .ref gw, .ref gB, .ref gK, .ref gU, .ref gS, .int gbe, .int gwo, .long gta, .ref gn, .int glr, .int glc, .int gti, .int ggo, .ref gR, .int gch, .ref gD]))], [(gw, .inr (10, [.int i1, .int i2, .int i3, .int gwg, .int gws, .ref q_1, .ref gwb]))], [(q_1, .inl (cy 3, i1.toNatClampNeg, .inr (.inr (.inr (.inr (yad ad_2))))))], xg_rows ad_2 i1.toNatClampNeg (cy 1) i2.toNatClampNeg (fun _ _ => 0)] rfl rfl dd_X9_lay_1.1 ?_
  refine xr_aload_n (n := 38) (j := 0) C dd_X9_lay_1.2.1 rfl rfl ?_
  refine xr_get (n := 41) C 0 rfl rfl 1 (by decide) in_X9 u_1238 rfl (v := .ref gw) rfl dd_X9_lay_1.2.2.1 rfl ?_
  refine xr_iload_n (n := 42) (j := 2) C dd_X9_lay_1.2.2.2.1 rfl rfl ?_
  refine xr_iload_n (n := 43) (j := 3) C dd_X9_lay_1.2.2.2.2.1 rfl rfl ?_
  obtain ⟨g_6, hR⟩ := yf_g hR
  refine xr_mnaI (n := 47) (N' := i2.toNatClampNeg) (K' := i3.toNatClampNeg) (cb := 10) (sb := 90) C u_1231 (by decide) u_108 g_6.1 g_6.2.1 rfl rfl g_6.2.2.1 g_6.2.2.2 (by have := g_6.2.2.1; omega) (ymul9 g_6.2.2.1 g_6.2.2.2) (Nat.le_of_ble_eq_true rfl) (Nat.le_of_ble_eq_true rfl) dX9_lay_43 rfl (fun q_4 ad_5 => ?_)
  refine xr_eq (bs' := [[(g, .inr (11, [.int gth, .ref gw, .ref gB, .ref gK, .ref gU, .ref gS, .int gbe, .int gwo, .long gta, .ref gn, .int glr, .int glc, .int gti, .int ggo, .ref gR, .int gch, .ref gD]))], [(gw, .inr (10, [.int i1, .int i2, .int i3, .int gwg, .int gws, .ref q_1, .ref gwb]))], [(q_1, .inl (cy 3, i1.toNatClampNeg, .inr (.inr (.inr (.inr (yad ad_2))))))], xg_rows ad_2 i1.toNatClampNeg (cy 1) i2.toNatClampNeg (fun _ _ => 0), [(q_4, .inl (cy 3, i2.toNatClampNeg, .inr (.inr (.inr (.inr (yad ad_5))))))], xg_rows ad_5 i2.toNatClampNeg (cy 1) i3.toNatClampNeg (fun _ _ => 0)]) rfl ?_
  refine xr_put (n := 50) C 1 rfl rfl 6 (by decide) in_X8 tyX8 tyX8_ok nmX8 u_1213 rfl rfl rfl rfl (Nat.le_of_ble_eq_true rfl) [[(g, .inr (11, [.int gth, .ref gw, .ref gB, .ref gK, .ref gU, .ref gS, .int gbe, .int gwo, .long gta, .ref gn, .int glr, .int glc, .int gti, .int ggo, .ref gR, .int gch, .ref gD]))], [(gw, .inr (10, [.int i1, .int i2, .int i3, .int gwg, .int gws, .ref q_1, .ref q_4]))], [(q_1, .inl (cy 3, i1.toNatClampNeg, .inr (.inr (.inr (.inr (yad ad_2))))))], xg_rows ad_2 i1.toNatClampNeg (cy 1) i2.toNatClampNeg (fun _ _ => 0), [(q_4, .inl (cy 3, i2.toNatClampNeg, .inr (.inr (.inr (.inr (yad ad_5))))))], xg_rows ad_5 i2.toNatClampNeg (cy 1) i3.toNatClampNeg (fun _ _ => 0)] rfl rfl dd_X9_lay_1.2.2.2.2.2.1 ?_
  obtain rfl := Option.some.inj hR
  exact ret ⟨q_1, q_4, ad_2, ad_5, rfl, rfl⟩ (Nat.le_of_ble_eq_true rfl) (Nat.le_of_ble_eq_true rfl) dd_X9_lay_1.2.2.2.2.2.2.1
def fX9_lay_0 (i1 : Int32) (i2 : Int32) (i3 : Int32) : Option (Int32 × Int32 × Int32 × Nat × Nat × (Nat → Nat → Int32) × Nat × Nat × (Nat → Nat → Int32)) := (if ¬ i1 < 0 ∧ ¬ i2 < 0 ∧ i1.toNatClampNeg ≤ 9 ∧ i2.toNatClampNeg ≤ 9 then (if ¬ i2 < 0 ∧ ¬ i3 < 0 ∧ i2.toNatClampNeg ≤ 9 ∧ i3.toNatClampNeg ≤ 9 then some (i1, i2, i3, i1.toNatClampNeg, i2.toNatClampNeg, fun _ _ => 0, i2.toNatClampNeg, i3.toNatClampNeg, fun _ _ => 0) else none) else none)
set_option maxHeartbeats 4000000 in
set_option maxRecDepth 100000 in
theorem kX9_lay_0 (l : Launch) (D : va_G) (cy : Nat → ClassId) (g : Nat) (gth : Int32) (gw : Nat) (gB : Nat) (gK : Nat) (gU : Nat) (gS : Nat) (gbe : Int32) (gwo : Int32) (gta : Int64) (glr : Int32) (glc : Int32) (gti : Int32) (ggo : Int32) (gR : Nat) (gch : Int32) (gD : Nat) (gwr : Int32) (gwk : Int32) (gwc : Int32) (gwg : Int32) (gws : Int32) (i1 : Int32) (i2 : Int32) (i3 : Int32) {res : Int32 × Int32 × Int32 × Nat × Nat × (Nat → Nat → Int32) × Nat × Nat × (Nat → Nat → Int32)} (hR : fX9_lay_0 i1 i2 i3 = some res) : YM l D cy yX9_lay hX9_lay 1 20 180 [.ref g, .int i1, .int i2, .int i3] [[(g, .inr (11, [.int gth, .ref gw, .ref gB, .ref gK, .ref gU, .ref gS, .int gbe, .int gwo, .long gta, .null, .int glr, .int glc, .int gti, .int ggo, .ref gR, .int gch, .ref gD]))], [(gw, .inr (10, [.int gwr, .int gwk, .int gwc, .int gwg, .int gws, .null, .null]))]] (fun v u => ∃ gwa : Nat, ∃ gwb : Nat, ∃ gwad : Nat → Nat, ∃ gwbd : Nat → Nat, v = none ∧ u = [[(g, .inr (11, [.int gth, .ref gw, .ref gB, .ref gK, .ref gU, .ref gS, .int gbe, .int gwo, .long gta, .null, .int glr, .int glc, .int gti, .int ggo, .ref gR, .int gch, .ref gD]))], [(gw, .inr (10, [.int res.1, .int res.2.1, .int res.2.2.1, .int gwg, .int gws, .ref gwa, .ref gwb]))], [(gwa, .inl (cy 3, res.2.2.2.1, .inr (.inr (.inr (.inr (yad gwad))))))], xg_rows gwad res.2.2.2.1 (cy 1) res.2.2.2.2.1 res.2.2.2.2.2.1, [(gwb, .inl (cy 3, res.2.2.2.2.2.2.1, .inr (.inr (.inr (.inr (yad gwbd))))))], xg_rows gwbd res.2.2.2.2.2.2.1 (cy 1) res.2.2.2.2.2.2.2.1 res.2.2.2.2.2.2.2.2]) := by
  unfold fX9_lay_0 at hR
  refine YM.ofV (cc := cX9_lay) (maxL := 4) (ret := none) (by decide +kernel) rfl (Nat.le_of_ble_eq_true rfl) [(0, .ref g), (1, .int i1), (2, .int i2), (3, .int i3)] rfl rfl (fun p e s m args below meth c A H0 Q C hnm ret => ?_)
  refine xr_aload_n (n := 1) (j := 0) C dd_X9_lay_0.1 rfl rfl ?_
  refine xr_get (n := 4) C 0 rfl rfl 1 (by decide) in_X9 u_1238 rfl (v := .ref gw) rfl dd_X9_lay_0.2.1 rfl ?_
  refine xr_iload_n (n := 5) (j := 1) C dd_X9_lay_0.2.2.1 rfl rfl ?_
  refine xr_put (n := 8) C 1 rfl rfl 0 (by decide) in_X8 tyX8 tyX8_ok nmX8 u_1201 rfl rfl rfl rfl (Nat.le_of_ble_eq_true rfl) [[(g, .inr (11, [.int gth, .ref gw, .ref gB, .ref gK, .ref gU, .ref gS, .int gbe, .int gwo, .long gta, .null, .int glr, .int glc, .int gti, .int ggo, .ref gR, .int gch, .ref gD]))], [(gw, .inr (10, [.int i1, .int gwk, .int gwc, .int gwg, .int gws, .null, .null]))]] rfl rfl dd_X9_lay_0.2.2.2.1 ?_
  refine xr_aload_n (n := 9) (j := 0) C dd_X9_lay_0.2.2.2.2.1 rfl rfl ?_
  refine xr_get (n := 12) C 0 rfl rfl 1 (by decide) in_X9 u_1238 rfl (v := .ref gw) rfl dd_X9_lay_0.2.2.2.2.2.1 rfl ?_
  refine xr_iload_n (n := 13) (j := 2) C dd_X9_lay_0.2.2.2.2.2.2.1 rfl rfl ?_
  refine xr_put (n := 16) C 1 rfl rfl 1 (by decide) in_X8 tyX8 tyX8_ok nmX8 u_1202 rfl rfl rfl rfl (Nat.le_of_ble_eq_true rfl) [[(g, .inr (11, [.int gth, .ref gw, .ref gB, .ref gK, .ref gU, .ref gS, .int gbe, .int gwo, .long gta, .null, .int glr, .int glc, .int gti, .int ggo, .ref gR, .int gch, .ref gD]))], [(gw, .inr (10, [.int i1, .int i2, .int gwc, .int gwg, .int gws, .null, .null]))]] rfl rfl dd_X9_lay_0.2.2.2.2.2.2.2.1 ?_
  refine xr_aload_n (n := 17) (j := 0) C dd_X9_lay_0.2.2.2.2.2.2.2.2.1 rfl rfl ?_
  refine xr_get (n := 20) C 0 rfl rfl 1 (by decide) in_X9 u_1238 rfl (v := .ref gw) rfl dd_X9_lay_0.2.2.2.2.2.2.2.2.2.1 rfl ?_
  refine xr_iload_n (n := 21) (j := 3) C dd_X9_lay_0.2.2.2.2.2.2.2.2.2.2.1 rfl rfl ?_
  refine xr_put (n := 24) C 1 rfl rfl 2 (by decide) in_X8 tyX8 tyX8_ok nmX8 u_1205 rfl rfl rfl rfl (Nat.le_of_ble_eq_true rfl) [[(g, .inr (11, [.int gth, .ref gw, .ref gB, .ref gK, .ref gU, .ref gS, .int gbe, .int gwo, .long gta, .null, .int glr, .int glc, .int gti, .int ggo, .ref gR, .int gch, .ref gD]))], [(gw, .inr (10, [.int i1, .int i2, .int i3, .int gwg, .int gws, .null, .null]))]] rfl rfl dd_X9_lay_0.2.2.2.2.2.2.2.2.2.2.2.1 ?_
  refine xr_aload_n (n := 25) (j := 0) C dd_X9_lay_0.2.2.2.2.2.2.2.2.2.2.2.2.1 rfl rfl ?_
  refine xr_get (n := 28) C 0 rfl rfl 1 (by decide) in_X9 u_1238 rfl (v := .ref gw) rfl dd_X9_lay_0.2.2.2.2.2.2.2.2.2.2.2.2.2.1 rfl ?_
  refine xr_iload_n (n := 29) (j := 1) C dd_X9_lay_0.2.2.2.2.2.2.2.2.2.2.2.2.2.2.1 rfl rfl ?_
  refine xr_iload_n (n := 30) (j := 2) C dd_X9_lay_0.2.2.2.2.2.2.2.2.2.2.2.2.2.2.2.1 rfl rfl ?_
  obtain ⟨g_3, hR⟩ := yf_g hR
  refine xr_mnaI (n := 34) (N' := i1.toNatClampNeg) (K' := i2.toNatClampNeg) (cb := 10) (sb := 90) C u_1231 (by decide) u_108 g_3.1 g_3.2.1 rfl rfl g_3.2.2.1 g_3.2.2.2 (by have := g_3.2.2.1; omega) (ymul9 g_3.2.2.1 g_3.2.2.2) (Nat.le_of_ble_eq_true rfl) (Nat.le_of_ble_eq_true rfl) dX9_lay_30 rfl (fun q_1 ad_2 => ?_)
  refine xr_eq (bs' := [[(g, .inr (11, [.int gth, .ref gw, .ref gB, .ref gK, .ref gU, .ref gS, .int gbe, .int gwo, .long gta, .null, .int glr, .int glc, .int gti, .int ggo, .ref gR, .int gch, .ref gD]))], [(gw, .inr (10, [.int i1, .int i2, .int i3, .int gwg, .int gws, .null, .null]))], [(q_1, .inl (cy 3, i1.toNatClampNeg, .inr (.inr (.inr (.inr (yad ad_2))))))], xg_rows ad_2 i1.toNatClampNeg (cy 1) i2.toNatClampNeg (fun _ _ => 0)]) rfl ?_
  refine xr_put (n := 37) C 1 rfl rfl 5 (by decide) in_X8 tyX8 tyX8_ok nmX8 u_1211 rfl rfl rfl rfl (Nat.le_of_ble_eq_true rfl) [[(g, .inr (11, [.int gth, .ref gw, .ref gB, .ref gK, .ref gU, .ref gS, .int gbe, .int gwo, .long gta, .null, .int glr, .int glc, .int gti, .int ggo, .ref gR, .int gch, .ref gD]))], [(gw, .inr (10, [.int i1, .int i2, .int i3, .int gwg, .int gws, .ref q_1, .null]))], [(q_1, .inl (cy 3, i1.toNatClampNeg, .inr (.inr (.inr (.inr (yad ad_2))))))], xg_rows ad_2 i1.toNatClampNeg (cy 1) i2.toNatClampNeg (fun _ _ => 0)] rfl rfl dd_X9_lay_1.1 ?_
  refine xr_aload_n (n := 38) (j := 0) C dd_X9_lay_1.2.1 rfl rfl ?_
  refine xr_get (n := 41) C 0 rfl rfl 1 (by decide) in_X9 u_1238 rfl (v := .ref gw) rfl dd_X9_lay_1.2.2.1 rfl ?_
  refine xr_iload_n (n := 42) (j := 2) C dd_X9_lay_1.2.2.2.1 rfl rfl ?_
  refine xr_iload_n (n := 43) (j := 3) C dd_X9_lay_1.2.2.2.2.1 rfl rfl ?_
  obtain ⟨g_6, hR⟩ := yf_g hR
  refine xr_mnaI (n := 47) (N' := i2.toNatClampNeg) (K' := i3.toNatClampNeg) (cb := 10) (sb := 90) C u_1231 (by decide) u_108 g_6.1 g_6.2.1 rfl rfl g_6.2.2.1 g_6.2.2.2 (by have := g_6.2.2.1; omega) (ymul9 g_6.2.2.1 g_6.2.2.2) (Nat.le_of_ble_eq_true rfl) (Nat.le_of_ble_eq_true rfl) dX9_lay_43 rfl (fun q_4 ad_5 => ?_)
  refine xr_eq (bs' := [[(g, .inr (11, [.int gth, .ref gw, .ref gB, .ref gK, .ref gU, .ref gS, .int gbe, .int gwo, .long gta, .null, .int glr, .int glc, .int gti, .int ggo, .ref gR, .int gch, .ref gD]))], [(gw, .inr (10, [.int i1, .int i2, .int i3, .int gwg, .int gws, .ref q_1, .null]))], [(q_1, .inl (cy 3, i1.toNatClampNeg, .inr (.inr (.inr (.inr (yad ad_2))))))], xg_rows ad_2 i1.toNatClampNeg (cy 1) i2.toNatClampNeg (fun _ _ => 0), [(q_4, .inl (cy 3, i2.toNatClampNeg, .inr (.inr (.inr (.inr (yad ad_5))))))], xg_rows ad_5 i2.toNatClampNeg (cy 1) i3.toNatClampNeg (fun _ _ => 0)]) rfl ?_
  refine xr_put (n := 50) C 1 rfl rfl 6 (by decide) in_X8 tyX8 tyX8_ok nmX8 u_1213 rfl rfl rfl rfl (Nat.le_of_ble_eq_true rfl) [[(g, .inr (11, [.int gth, .ref gw, .ref gB, .ref gK, .ref gU, .ref gS, .int gbe, .int gwo, .long gta, .null, .int glr, .int glc, .int gti, .int ggo, .ref gR, .int gch, .ref gD]))], [(gw, .inr (10, [.int i1, .int i2, .int i3, .int gwg, .int gws, .ref q_1, .ref q_4]))], [(q_1, .inl (cy 3, i1.toNatClampNeg, .inr (.inr (.inr (.inr (yad ad_2))))))], xg_rows ad_2 i1.toNatClampNeg (cy 1) i2.toNatClampNeg (fun _ _ => 0), [(q_4, .inl (cy 3, i2.toNatClampNeg, .inr (.inr (.inr (.inr (yad ad_5))))))], xg_rows ad_5 i2.toNatClampNeg (cy 1) i3.toNatClampNeg (fun _ _ => 0)] rfl rfl dd_X9_lay_1.2.2.2.2.2.1 ?_
  obtain rfl := Option.some.inj hR
  exact ret ⟨q_1, q_4, ad_2, ad_5, rfl, rfl⟩ (Nat.le_of_ble_eq_true rfl) (Nat.le_of_ble_eq_true rfl) dd_X9_lay_1.2.2.2.2.2.2.1
theorem dd_X9_shape_0 : dk_R cX9_shape [(0, .aload_n 0, 1), (1, .iload_n 1, 1), (2, .iconst 1, 1), (3, .bipush 8, 2), (5, .invokestatic 75, 3), (8, .ifCond .eq 23, 3), (11, .iload_n 3, 1), (12, .iconst 1, 1), (13, .bipush 8, 2), (15, .invokestatic 75, 3), (18, .ifCond .eq 13, 3), (21, .iload_n 2, 1), (22, .iconst 1, 1), (23, .bipush 6, 2), (25, .invokestatic 75, 3), (28, .ifCond .ne 7, 3)] := dk_use _ _ (by decide +kernel)
theorem dd_X9_shape_1 : dk_R cX9_shape [(31, .iconst 1, 1), (32, .goto 4, 3), (35, .iconst 0, 1), (36, .iconst 1, 1), (37, .invokevirtual 79, 3), (40, .ifCond .eq 5, 3), (43, .iconst 0, 1), (44, .ireturn, 1), (45, .aload_n 0, 1), (46, .getfield 16, 3), (49, .getfield 58, 3), (52, .invokestatic 82, 3), (55, .aload_n 0, 1), (56, .getfield 16, 3), (59, .getfield 61, 3), (62, .invokestatic 82, 3)] := dk_use _ _ (by decide +kernel)
theorem dd_X9_shape_2 : dk_R cX9_shape [(65, .iadd, 1), (66, .istore 4, 2), (68, .aload_n 0, 1), (69, .iload_n 1, 1), (70, .iload_n 2, 1), (71, .iload_n 3, 1), (72, .invokevirtual 44, 3), (75, .iload 4, 2), (77, .ireturn, 1)] := dk_use _ _ (by decide +kernel)
def fX9_shape_i (gwr : Int32) (gwk : Int32) (gwc : Int32) (gwan : Nat) (gwak : Nat) (gwaG : Nat → Nat → Int32) (gwbn : Nat) (gwbk : Nat) (gwbG : Nat → Nat → Int32) (i1 : Int32) (i2 : Int32) (i3 : Int32) : Option (Int32 × Int32 × Int32 × Int32 × Int32 × Nat × Nat × (Nat → Nat → Int32) × Nat × Nat × (Nat → Nat → Int32)) := ((fX9_isIn i1 1 8).bind fun x_1 => ((((if x_1 = 0 then some 1 else ((fX9_isIn i3 1 8).bind fun x_40 => (if x_40 = 0 then some 1 else ((fX9_isIn i2 1 6).bind fun x_46 => (if x_46 = 0 then some 1 else some 0))))) : Option (Int32))).bind fun r_16 => ((fX9_start_i r_16 1).bind fun x_17 => (if x_17.1 = 0 then ((fX9_others gwan gwak gwaG).bind fun x_22 => ((fX9_others gwbn gwbk gwbG).bind fun x_26 => ((fX9_lay_i i1 i2 i3).bind fun x_30 => some (x_22 + x_26, x_17.2, x_30.1, x_30.2.1, x_30.2.2.1, x_30.2.2.2.1, x_30.2.2.2.2.1, x_30.2.2.2.2.2.1, x_30.2.2.2.2.2.2.1, x_30.2.2.2.2.2.2.2.1, x_30.2.2.2.2.2.2.2.2)))) else some (0, x_17.2, gwr, gwk, gwc, gwan, gwak, gwaG, gwbn, gwbk, gwbG)))))
abbrev hX9_shape : Cond := .code yX9_shape cX9_shape 5 (some .int)
theorem mX9_shape : yM yX9_shape hX9_shape 3 := ⟨u_1297, u_64, by decide +kernel, by decide +kernel, by decide +kernel⟩
set_option maxHeartbeats 4000000 in
set_option maxRecDepth 100000 in
theorem kX9_shape_i (l : Launch) (D : va_G) (cy : Nat → ClassId) (g : Nat) (gth : Int32) (gw : Nat) (gB : Nat) (gK : Nat) (gU : Nat) (gS : Nat) (gbe : Int32) (gwo : Int32) (gta : Int64) (glr : Int32) (glc : Int32) (gti : Int32) (ggo : Int32) (gR : Nat) (gch : Int32) (gD : Nat) (gwr : Int32) (gwk : Int32) (gwc : Int32) (gwg : Int32) (gws : Int32) (gwa : Nat) (gwb : Nat) (gwad : Nat → Nat) (gwan : Nat) (gwak : Nat) (gwaG : Nat → Nat → Int32) (gwbd : Nat → Nat) (gwbn : Nat) (gwbk : Nat) (gwbG : Nat → Nat → Int32) (i1 : Int32) (i2 : Int32) (i3 : Int32) {res : Int32 × Int32 × Int32 × Int32 × Int32 × Nat × Nat × (Nat → Nat → Int32) × Nat × Nat × (Nat → Nat → Int32)} (hR : fX9_shape_i gwr gwk gwc gwan gwak gwaG gwbn gwbk gwbG i1 i2 i3 = some res) : YM l D cy yX9_shape hX9_shape 3 20 180 [.ref g, .int i1, .int i2, .int i3] [[(g, .inr (11, [.int gth, .ref gw, .ref gB, .ref gK, .ref gU, .ref gS, .int gbe, .int gwo, .long gta, .null, .int glr, .int glc, .int gti, .int ggo, .ref gR, .int gch, .ref gD]))], [(gw, .inr (10, [.int gwr, .int gwk, .int gwc, .int gwg, .int gws, .ref gwa, .ref gwb]))], [(gwa, .inl (cy 3, gwan, .inr (.inr (.inr (.inr (yad gwad))))))], xg_rows gwad gwan (cy 1) gwak gwaG, [(gwb, .inl (cy 3, gwbn, .inr (.inr (.inr (.inr (yad gwbd))))))], xg_rows gwbd gwbn (cy 1) gwbk gwbG] (fun v u => ∃ gwa : Nat, ∃ gwb : Nat, ∃ gwad : Nat → Nat, ∃ gwbd : Nat → Nat, v = some (.int res.1) ∧ u = [[(g, .inr (11, [.int res.2.1, .ref gw, .ref gB, .ref gK, .ref gU, .ref gS, .int gbe, .int gwo, .long gta, .null, .int glr, .int glc, .int gti, .int ggo, .ref gR, .int gch, .ref gD]))], [(gw, .inr (10, [.int res.2.2.1, .int res.2.2.2.1, .int res.2.2.2.2.1, .int gwg, .int gws, .ref gwa, .ref gwb]))], [(gwa, .inl (cy 3, res.2.2.2.2.2.1, .inr (.inr (.inr (.inr (yad gwad))))))], xg_rows gwad res.2.2.2.2.2.1 (cy 1) res.2.2.2.2.2.2.1 res.2.2.2.2.2.2.2.1, [(gwb, .inl (cy 3, res.2.2.2.2.2.2.2.2.1, .inr (.inr (.inr (.inr (yad gwbd))))))], xg_rows gwbd res.2.2.2.2.2.2.2.2.1 (cy 1) res.2.2.2.2.2.2.2.2.2.1 res.2.2.2.2.2.2.2.2.2.2]) := by
  unfold fX9_shape_i at hR
  refine YM.ofI (cc := cX9_shape) (maxL := 5) (ret := (some .int)) (by decide +kernel) rfl (Nat.le_of_ble_eq_true rfl) [(0, .ref g), (1, .int i1), (2, .int i2), (3, .int i3)] rfl rfl (fun p e s m args below meth c A H0 Q C hnm ret => ?_)
  refine xr_aload_n (n := 1) (j := 0) C dd_X9_shape_0.1 rfl rfl ?_
  refine xr_iload_n (n := 2) (j := 1) C dd_X9_shape_0.2.1 rfl rfl ?_
  refine xr_iconst (n := 3) (v := 1) C dd_X9_shape_0.2.2.1 rfl rfl ?_
  refine xr_bipush (n := 5) (v := 8) C dd_X9_shape_0.2.2.2.1 rfl rfl ?_
  obtain ⟨x_1, hx_1, hR⟩ := yf_b hR
  refine xr_callSp (n := 8) (As := [.int i1, .int 1, .int 8]) (rest := [.ref g]) C (kX9_isIn l D cy (i1 := i1) (i2 := 1) (i3 := 8) hx_1) mX9_isIn u_1298 u_1299 6 [] [0, 1, 2, 3, 4, 5] rfl (by decide +kernel) rfl rfl rfl rfl (Nat.le_of_ble_eq_true rfl) (Nat.le_of_ble_eq_true rfl) (Nat.le_of_ble_eq_true rfl) (Nat.le_of_ble_eq_true rfl) (Nat.le_of_ble_eq_true rfl) dd_X9_shape_0.2.2.2.2.1 rfl (fun _ _ hp => hp.2) (fun v_2 hp_4 => ?_)
  obtain ⟨rfl, -⟩ := hp_4
  refine xr_st (st' := [.int x_1, .ref g]) rfl ?_
  obtain ⟨r_16, hE_16, hR⟩ := yf_b hR
  have J_16 : X p l e (yR 3 20 180) s m args below meth c D A H0 5 Q [[(g, .inr (11, [.int gth, .ref gw, .ref gB, .ref gK, .ref gU, .ref gS, .int gbe, .int gwo, .long gta, .null, .int glr, .int glc, .int gti, .int ggo, .ref gR, .int gch, .ref gD]))], [(gw, .inr (10, [.int gwr, .int gwk, .int gwc, .int gwg, .int gws, .ref gwa, .ref gwb]))], [(gwa, .inl (cy 3, gwan, .inr (.inr (.inr (.inr (yad gwad))))))], xg_rows gwad gwan (cy 1) gwak gwaG, [(gwb, .inl (cy 3, gwbn, .inr (.inr (.inr (.inr (yad gwbd))))))], xg_rows gwbd gwbn (cy 1) gwbk gwbG] 0 0 [(0, .ref g), (1, .int i1), (2, .int i2), (3, .int i3)] 36 [.int r_16, .ref g] := by
    refine xr_iconst (n := 37) (v := 1) C dd_X9_shape_1.2.2.2.1 rfl rfl ?_
    obtain ⟨x_17, hx_17, hR⟩ := yf_b hR
    refine xr_callV (n := 40) (As := [.int r_16, .int 1]) (rest := []) C (kX9_start_i l D cy (g := g) (gth := gth) (gw := gw) (gB := gB) (gK := gK) (gU := gU) (gS := gS) (gbe := gbe) (gwo := gwo) (gta := gta) (glr := glr) (glc := glc) (gti := gti) (ggo := ggo) (gR := gR) (gch := gch) (gD := gD) (i1 := r_16) (i2 := 1) hx_17) mX9_start u_1301 u_1303 u_29 0 rfl rfl 6 [0] [1, 2, 3, 4, 5] rfl (by decide +kernel) rfl rfl rfl rfl (Nat.le_of_ble_eq_true rfl) (Nat.le_of_ble_eq_true rfl) (Nat.le_of_ble_eq_true rfl) (Nat.le_of_ble_eq_true rfl) (Nat.le_of_ble_eq_true rfl) dd_X9_shape_1.2.2.2.2.1 rfl (fun v_18 u_19 hp_20 => ?_)
    obtain ⟨rfl, rfl⟩ := hp_20
    refine xr_perm C 6 [0, 1, 2, 3, 4, 5] [] [[(g, .inr (11, [.int x_17.2, .ref gw, .ref gB, .ref gK, .ref gU, .ref gS, .int gbe, .int gwo, .long gta, .null, .int glr, .int glc, .int gti, .int ggo, .ref gR, .int gch, .ref gD]))], [(gw, .inr (10, [.int gwr, .int gwk, .int gwc, .int gwg, .int gws, .ref gwa, .ref gwb]))], [(gwa, .inl (cy 3, gwan, .inr (.inr (.inr (.inr (yad gwad))))))], xg_rows gwad gwan (cy 1) gwak gwaG, [(gwb, .inl (cy 3, gwbn, .inr (.inr (.inr (.inr (yad gwbd))))))], xg_rows gwbd gwbn (cy 1) gwbk gwbG] rfl (by decide +kernel) rfl ?_
    refine xr_st (st' := [.int x_17.1]) rfl ?_
    refine xr_if_eq (tgt := 45) (n := 43) C dd_X9_shape_1.2.2.2.2.2.1 rfl rfl (fun c_21 => ?_) (fun c_21 => ?_)
    · replace hR := yf_t c_21 hR
      refine xr_aload_n (n := 46) (j := 0) C dd_X9_shape_1.2.2.2.2.2.2.2.2.1 rfl rfl ?_
      refine xr_get (n := 49) C 0 rfl rfl 1 (by decide) in_X9 u_1238 rfl (v := .ref gw) rfl dd_X9_shape_1.2.2.2.2.2.2.2.2.2.1 rfl ?_
      refine xr_get (n := 52) C 1 rfl rfl 5 (by decide) in_X8 u_1211 rfl (v := .ref gwa) rfl dd_X9_shape_1.2.2.2.2.2.2.2.2.2.2.1 rfl ?_
      obtain ⟨x_22, hx_22, hR⟩ := yf_b hR
      refine xr_callSp (n := 55) (As := [.ref gwa]) (rest := []) C (kX9_others l D cy (h := gwa) (hd := gwad) (hn := gwan) (hk := gwak) (hG := gwaG) hx_22) mX9_others u_1309 u_1310 6 [2, 3] [0, 1, 4, 5] rfl (by decide +kernel) rfl rfl rfl rfl (Nat.le_of_ble_eq_true rfl) (Nat.le_of_ble_eq_true rfl) (Nat.le_of_ble_eq_true rfl) (Nat.le_of_ble_eq_true rfl) (Nat.le_of_ble_eq_true rfl) dd_X9_shape_1.2.2.2.2.2.2.2.2.2.2.2.1 rfl (fun _ _ hp => hp.2) (fun v_23 hp_25 => ?_)
      obtain ⟨rfl, -⟩ := hp_25
      refine xr_st (st' := [.int x_22]) rfl ?_
      refine xr_aload_n (n := 56) (j := 0) C dd_X9_shape_1.2.2.2.2.2.2.2.2.2.2.2.2.1 rfl rfl ?_
      refine xr_get (n := 59) C 0 rfl rfl 1 (by decide) in_X9 u_1238 rfl (v := .ref gw) rfl dd_X9_shape_1.2.2.2.2.2.2.2.2.2.2.2.2.2.1 rfl ?_
      refine xr_get (n := 62) C 1 rfl rfl 6 (by decide) in_X8 u_1213 rfl (v := .ref gwb) rfl dd_X9_shape_1.2.2.2.2.2.2.2.2.2.2.2.2.2.2.1 rfl ?_
      obtain ⟨x_26, hx_26, hR⟩ := yf_b hR
      refine xr_callSp (n := 65) (As := [.ref gwb]) (rest := [.int x_22]) C (kX9_others l D cy (h := gwb) (hd := gwbd) (hn := gwbn) (hk := gwbk) (hG := gwbG) hx_26) mX9_others u_1309 u_1310 6 [4, 5] [0, 1, 2, 3] rfl (by decide +kernel) rfl rfl rfl rfl (Nat.le_of_ble_eq_true rfl) (Nat.le_of_ble_eq_true rfl) (Nat.le_of_ble_eq_true rfl) (Nat.le_of_ble_eq_true rfl) (Nat.le_of_ble_eq_true rfl) dd_X9_shape_1.2.2.2.2.2.2.2.2.2.2.2.2.2.2.2.1 rfl (fun _ _ hp => hp.2) (fun v_27 hp_29 => ?_)
      obtain ⟨rfl, -⟩ := hp_29
      refine xr_st (st' := [.int x_26, .int x_22]) rfl ?_
      refine xr_iadd (n := 66) C dd_X9_shape_2.1 rfl ?_
      refine xr_istore (n := 68) C [(4, .int (x_22 + x_26)), (0, .ref g), (1, .int i1), (2, .int i2), (3, .int i3)] dd_X9_shape_2.2.1 (by decide) rfl rfl ?_
      refine xr_aload_n (n := 69) (j := 1) C dd_X9_shape_2.2.2.1 rfl rfl ?_
      refine xr_iload_n (n := 70) (j := 2) C dd_X9_shape_2.2.2.2.1 rfl rfl ?_
      refine xr_iload_n (n := 71) (j := 3) C dd_X9_shape_2.2.2.2.2.1 rfl rfl ?_
      refine xr_iload_n (n := 72) (j := 4) C dd_X9_shape_2.2.2.2.2.2.1 rfl rfl ?_
      obtain ⟨x_30, hx_30, hR⟩ := yf_b hR
      refine xr_callV (n := 75) (As := [.int i1, .int i2, .int i3]) (rest := []) C (kX9_lay_i l D cy (g := g) (gth := x_17.2) (gw := gw) (gB := gB) (gK := gK) (gU := gU) (gS := gS) (gbe := gbe) (gwo := gwo) (gta := gta) (glr := glr) (glc := glc) (gti := gti) (ggo := ggo) (gR := gR) (gch := gch) (gD := gD) (gwr := gwr) (gwk := gwk) (gwc := gwc) (gwg := gwg) (gws := gws) (gwa := gwa) (gwb := gwb) (i1 := i1) (i2 := i2) (i3 := i3) hx_30) mX9_lay u_1233 u_1235 u_28 0 rfl rfl 6 [0, 1] [2, 3, 4, 5] rfl (by decide +kernel) rfl rfl rfl rfl (Nat.le_of_ble_eq_true rfl) (Nat.le_of_ble_eq_true rfl) (Nat.le_of_ble_eq_true rfl) (Nat.le_of_ble_eq_true rfl) (Nat.le_of_ble_eq_true rfl) dd_X9_shape_2.2.2.2.2.2.2.1 rfl (fun v_31 u_32 hp_33 => ?_)
      obtain ⟨q_34, q_35, q_36, q_37, rfl, rfl⟩ := hp_33
      refine xr_perm C 10 [0, 1, 6, 7, 8, 9, 2, 3, 4, 5] [] [[(g, .inr (11, [.int x_17.2, .ref gw, .ref gB, .ref gK, .ref gU, .ref gS, .int gbe, .int gwo, .long gta, .null, .int glr, .int glc, .int gti, .int ggo, .ref gR, .int gch, .ref gD]))], [(gw, .inr (10, [.int x_30.1, .int x_30.2.1, .int x_30.2.2.1, .int gwg, .int gws, .ref q_34, .ref q_35]))], [(gwa, .inl (cy 3, gwan, .inr (.inr (.inr (.inr (yad gwad))))))], xg_rows gwad gwan (cy 1) gwak gwaG, [(gwb, .inl (cy 3, gwbn, .inr (.inr (.inr (.inr (yad gwbd))))))], xg_rows gwbd gwbn (cy 1) gwbk gwbG, [(q_34, .inl (cy 3, x_30.2.2.2.1, .inr (.inr (.inr (.inr (yad q_36))))))], xg_rows q_36 x_30.2.2.2.1 (cy 1) x_30.2.2.2.2.1 x_30.2.2.2.2.2.1, [(q_35, .inl (cy 3, x_30.2.2.2.2.2.2.1, .inr (.inr (.inr (.inr (yad q_37))))))], xg_rows q_37 x_30.2.2.2.2.2.2.1 (cy 1) x_30.2.2.2.2.2.2.2.1 x_30.2.2.2.2.2.2.2.2] rfl (by decide +kernel) rfl ?_
      refine xr_iload (n := 77) (j := 0) C dd_X9_shape_2.2.2.2.2.2.2.2.1 rfl rfl ?_
      obtain rfl := Option.some.inj hR
      refine xr_perm C 10 [0, 1, 6, 7, 8, 9] [2, 3, 4, 5] [[(g, .inr (11, [.int x_17.2, .ref gw, .ref gB, .ref gK, .ref gU, .ref gS, .int gbe, .int gwo, .long gta, .null, .int glr, .int glc, .int gti, .int ggo, .ref gR, .int gch, .ref gD]))], [(gw, .inr (10, [.int x_30.1, .int x_30.2.1, .int x_30.2.2.1, .int gwg, .int gws, .ref q_34, .ref q_35]))], [(q_34, .inl (cy 3, x_30.2.2.2.1, .inr (.inr (.inr (.inr (yad q_36))))))], xg_rows q_36 x_30.2.2.2.1 (cy 1) x_30.2.2.2.2.1 x_30.2.2.2.2.2.1, [(q_35, .inl (cy 3, x_30.2.2.2.2.2.2.1, .inr (.inr (.inr (.inr (yad q_37))))))], xg_rows q_37 x_30.2.2.2.2.2.2.1 (cy 1) x_30.2.2.2.2.2.2.2.1 x_30.2.2.2.2.2.2.2.2] rfl (by decide +kernel) rfl ?_
      exact ret (x_22 + x_26) ⟨q_34, q_35, q_36, q_37, rfl, rfl⟩ (Nat.le_of_ble_eq_true rfl) (Nat.le_of_ble_eq_true rfl) dd_X9_shape_2.2.2.2.2.2.2.2.2.1
    · replace hR := yf_f c_21 hR
      refine xr_iconst (n := 44) (v := 0) C dd_X9_shape_1.2.2.2.2.2.2.1 rfl rfl ?_
      obtain rfl := Option.some.inj hR
      exact ret 0 ⟨gwa, gwb, gwad, gwbd, rfl, rfl⟩ (Nat.le_of_ble_eq_true rfl) (Nat.le_of_ble_eq_true rfl) dd_X9_shape_1.2.2.2.2.2.2.2.1
  refine xr_if_eq (tgt := 31) (n := 11) C dd_X9_shape_0.2.2.2.2.2.1 rfl rfl (fun c_38 => ?_) (fun c_38 => ?_)
  · replace hE_16 := yf_t c_38 hE_16
    refine xr_iconst (n := 32) (v := 1) C dd_X9_shape_1.1 rfl rfl ?_
    refine xr_goto (tgt := 36) C dd_X9_shape_1.2.1 rfl ?_
    have e_39 := Option.some.inj hE_16
    subst e_39
    exact J_16
  · replace hE_16 := yf_f c_38 hE_16
    refine xr_iload_n (n := 12) (j := 3) C dd_X9_shape_0.2.2.2.2.2.2.1 rfl rfl ?_
    refine xr_iconst (n := 13) (v := 1) C dd_X9_shape_0.2.2.2.2.2.2.2.1 rfl rfl ?_
    refine xr_bipush (n := 15) (v := 8) C dd_X9_shape_0.2.2.2.2.2.2.2.2.1 rfl rfl ?_
    obtain ⟨x_40, hx_40, hE_16⟩ := yf_b hE_16
    refine xr_callSp (n := 18) (As := [.int i3, .int 1, .int 8]) (rest := [.ref g]) C (kX9_isIn l D cy (i1 := i3) (i2 := 1) (i3 := 8) hx_40) mX9_isIn u_1298 u_1299 6 [] [0, 1, 2, 3, 4, 5] rfl (by decide +kernel) rfl rfl rfl rfl (Nat.le_of_ble_eq_true rfl) (Nat.le_of_ble_eq_true rfl) (Nat.le_of_ble_eq_true rfl) (Nat.le_of_ble_eq_true rfl) (Nat.le_of_ble_eq_true rfl) dd_X9_shape_0.2.2.2.2.2.2.2.2.2.1 rfl (fun _ _ hp => hp.2) (fun v_41 hp_43 => ?_)
    obtain ⟨rfl, -⟩ := hp_43
    refine xr_st (st' := [.int x_40, .ref g]) rfl ?_
    refine xr_if_eq (tgt := 31) (n := 21) C dd_X9_shape_0.2.2.2.2.2.2.2.2.2.2.1 rfl rfl (fun c_44 => ?_) (fun c_44 => ?_)
    · replace hE_16 := yf_t c_44 hE_16
      refine xr_iconst (n := 32) (v := 1) C dd_X9_shape_1.1 rfl rfl ?_
      refine xr_goto (tgt := 36) C dd_X9_shape_1.2.1 rfl ?_
      have e_45 := Option.some.inj hE_16
      subst e_45
      exact J_16
    · replace hE_16 := yf_f c_44 hE_16
      refine xr_iload_n (n := 22) (j := 2) C dd_X9_shape_0.2.2.2.2.2.2.2.2.2.2.2.1 rfl rfl ?_
      refine xr_iconst (n := 23) (v := 1) C dd_X9_shape_0.2.2.2.2.2.2.2.2.2.2.2.2.1 rfl rfl ?_
      refine xr_bipush (n := 25) (v := 6) C dd_X9_shape_0.2.2.2.2.2.2.2.2.2.2.2.2.2.1 rfl rfl ?_
      obtain ⟨x_46, hx_46, hE_16⟩ := yf_b hE_16
      refine xr_callSp (n := 28) (As := [.int i2, .int 1, .int 6]) (rest := [.ref g]) C (kX9_isIn l D cy (i1 := i2) (i2 := 1) (i3 := 6) hx_46) mX9_isIn u_1298 u_1299 6 [] [0, 1, 2, 3, 4, 5] rfl (by decide +kernel) rfl rfl rfl rfl (Nat.le_of_ble_eq_true rfl) (Nat.le_of_ble_eq_true rfl) (Nat.le_of_ble_eq_true rfl) (Nat.le_of_ble_eq_true rfl) (Nat.le_of_ble_eq_true rfl) dd_X9_shape_0.2.2.2.2.2.2.2.2.2.2.2.2.2.2.1 rfl (fun _ _ hp => hp.2) (fun v_47 hp_49 => ?_)
      obtain ⟨rfl, -⟩ := hp_49
      refine xr_st (st' := [.int x_46, .ref g]) rfl ?_
      refine xr_if_ne (tgt := 35) (n := 31) C dd_X9_shape_0.2.2.2.2.2.2.2.2.2.2.2.2.2.2.2.1 rfl rfl (fun c_50 => ?_) (fun c_50 => ?_)
      · replace hE_16 := yf_f c_50 hE_16
        refine xr_iconst (n := 36) (v := 0) C dd_X9_shape_1.2.2.1 rfl rfl ?_
        have e_51 := Option.some.inj hE_16
        subst e_51
        exact J_16
      · replace hE_16 := yf_t c_50 hE_16
        refine xr_iconst (n := 32) (v := 1) C dd_X9_shape_1.1 rfl rfl ?_
        refine xr_goto (tgt := 36) C dd_X9_shape_1.2.1 rfl ?_
        have e_52 := Option.some.inj hE_16
        subst e_52
        exact J_16
def fX9_shape_r (gwr : Int32) (gwk : Int32) (gwc : Int32) (gwan : Nat) (gwak : Nat) (gwaG : Nat → Nat → Int32) (gwbn : Nat) (gwbk : Nat) (gwbG : Nat → Nat → Int32) (i1 : Int32) (i2 : Int32) (i3 : Int32) : Option (Int32 × Int32 × Int32 × Int32 × Int32 × Nat × Nat × (Nat → Nat → Int32) × Nat × Nat × (Nat → Nat → Int32)) := ((fX9_isIn i1 1 8).bind fun x_1 => ((((if x_1 = 0 then some 1 else ((fX9_isIn i3 1 8).bind fun x_40 => (if x_40 = 0 then some 1 else ((fX9_isIn i2 1 6).bind fun x_46 => (if x_46 = 0 then some 1 else some 0))))) : Option (Int32))).bind fun r_16 => ((fX9_start_r r_16 1).bind fun x_17 => (if x_17.1 = 0 then ((fX9_others gwan gwak gwaG).bind fun x_22 => ((fX9_others gwbn gwbk gwbG).bind fun x_26 => ((fX9_lay_r i1 i2 i3).bind fun x_30 => some (x_22 + x_26, x_17.2, x_30.1, x_30.2.1, x_30.2.2.1, x_30.2.2.2.1, x_30.2.2.2.2.1, x_30.2.2.2.2.2.1, x_30.2.2.2.2.2.2.1, x_30.2.2.2.2.2.2.2.1, x_30.2.2.2.2.2.2.2.2)))) else some (0, x_17.2, gwr, gwk, gwc, gwan, gwak, gwaG, gwbn, gwbk, gwbG)))))
set_option maxHeartbeats 4000000 in
set_option maxRecDepth 100000 in
theorem kX9_shape_r (l : Launch) (D : va_G) (cy : Nat → ClassId) (g : Nat) (gth : Int32) (gw : Nat) (gB : Nat) (gK : Nat) (gU : Nat) (gS : Nat) (gbe : Int32) (gwo : Int32) (gta : Int64) (gn : Nat) (glr : Int32) (glc : Int32) (gti : Int32) (ggo : Int32) (gR : Nat) (gch : Int32) (gD : Nat) (gwr : Int32) (gwk : Int32) (gwc : Int32) (gwg : Int32) (gws : Int32) (gwa : Nat) (gwb : Nat) (gwad : Nat → Nat) (gwan : Nat) (gwak : Nat) (gwaG : Nat → Nat → Int32) (gwbd : Nat → Nat) (gwbn : Nat) (gwbk : Nat) (gwbG : Nat → Nat → Int32) (i1 : Int32) (i2 : Int32) (i3 : Int32) {res : Int32 × Int32 × Int32 × Int32 × Int32 × Nat × Nat × (Nat → Nat → Int32) × Nat × Nat × (Nat → Nat → Int32)} (hR : fX9_shape_r gwr gwk gwc gwan gwak gwaG gwbn gwbk gwbG i1 i2 i3 = some res) : YM l D cy yX9_shape hX9_shape 3 20 180 [.ref g, .int i1, .int i2, .int i3] [[(g, .inr (11, [.int gth, .ref gw, .ref gB, .ref gK, .ref gU, .ref gS, .int gbe, .int gwo, .long gta, .ref gn, .int glr, .int glc, .int gti, .int ggo, .ref gR, .int gch, .ref gD]))], [(gw, .inr (10, [.int gwr, .int gwk, .int gwc, .int gwg, .int gws, .ref gwa, .ref gwb]))], [(gwa, .inl (cy 3, gwan, .inr (.inr (.inr (.inr (yad gwad))))))], xg_rows gwad gwan (cy 1) gwak gwaG, [(gwb, .inl (cy 3, gwbn, .inr (.inr (.inr (.inr (yad gwbd))))))], xg_rows gwbd gwbn (cy 1) gwbk gwbG] (fun v u => ∃ gwa : Nat, ∃ gwb : Nat, ∃ gwad : Nat → Nat, ∃ gwbd : Nat → Nat, v = some (.int res.1) ∧ u = [[(g, .inr (11, [.int res.2.1, .ref gw, .ref gB, .ref gK, .ref gU, .ref gS, .int gbe, .int gwo, .long gta, .ref gn, .int glr, .int glc, .int gti, .int ggo, .ref gR, .int gch, .ref gD]))], [(gw, .inr (10, [.int res.2.2.1, .int res.2.2.2.1, .int res.2.2.2.2.1, .int gwg, .int gws, .ref gwa, .ref gwb]))], [(gwa, .inl (cy 3, res.2.2.2.2.2.1, .inr (.inr (.inr (.inr (yad gwad))))))], xg_rows gwad res.2.2.2.2.2.1 (cy 1) res.2.2.2.2.2.2.1 res.2.2.2.2.2.2.2.1, [(gwb, .inl (cy 3, res.2.2.2.2.2.2.2.2.1, .inr (.inr (.inr (.inr (yad gwbd))))))], xg_rows gwbd res.2.2.2.2.2.2.2.2.1 (cy 1) res.2.2.2.2.2.2.2.2.2.1 res.2.2.2.2.2.2.2.2.2.2]) := by
  unfold fX9_shape_r at hR
  refine YM.ofI (cc := cX9_shape) (maxL := 5) (ret := (some .int)) (by decide +kernel) rfl (Nat.le_of_ble_eq_true rfl) [(0, .ref g), (1, .int i1), (2, .int i2), (3, .int i3)] rfl rfl (fun p e s m args below meth c A H0 Q C hnm ret => ?_)
  refine xr_aload_n (n := 1) (j := 0) C dd_X9_shape_0.1 rfl rfl ?_
  refine xr_iload_n (n := 2) (j := 1) C dd_X9_shape_0.2.1 rfl rfl ?_
  refine xr_iconst (n := 3) (v := 1) C dd_X9_shape_0.2.2.1 rfl rfl ?_
  refine xr_bipush (n := 5) (v := 8) C dd_X9_shape_0.2.2.2.1 rfl rfl ?_
  obtain ⟨x_1, hx_1, hR⟩ := yf_b hR
  refine xr_callSp (n := 8) (As := [.int i1, .int 1, .int 8]) (rest := [.ref g]) C (kX9_isIn l D cy (i1 := i1) (i2 := 1) (i3 := 8) hx_1) mX9_isIn u_1298 u_1299 6 [] [0, 1, 2, 3, 4, 5] rfl (by decide +kernel) rfl rfl rfl rfl (Nat.le_of_ble_eq_true rfl) (Nat.le_of_ble_eq_true rfl) (Nat.le_of_ble_eq_true rfl) (Nat.le_of_ble_eq_true rfl) (Nat.le_of_ble_eq_true rfl) dd_X9_shape_0.2.2.2.2.1 rfl (fun _ _ hp => hp.2) (fun v_2 hp_4 => ?_)
  obtain ⟨rfl, -⟩ := hp_4
  refine xr_st (st' := [.int x_1, .ref g]) rfl ?_
  obtain ⟨r_16, hE_16, hR⟩ := yf_b hR
  have J_16 : X p l e (yR 3 20 180) s m args below meth c D A H0 5 Q [[(g, .inr (11, [.int gth, .ref gw, .ref gB, .ref gK, .ref gU, .ref gS, .int gbe, .int gwo, .long gta, .ref gn, .int glr, .int glc, .int gti, .int ggo, .ref gR, .int gch, .ref gD]))], [(gw, .inr (10, [.int gwr, .int gwk, .int gwc, .int gwg, .int gws, .ref gwa, .ref gwb]))], [(gwa, .inl (cy 3, gwan, .inr (.inr (.inr (.inr (yad gwad))))))], xg_rows gwad gwan (cy 1) gwak gwaG, [(gwb, .inl (cy 3, gwbn, .inr (.inr (.inr (.inr (yad gwbd))))))], xg_rows gwbd gwbn (cy 1) gwbk gwbG] 0 0 [(0, .ref g), (1, .int i1), (2, .int i2), (3, .int i3)] 36 [.int r_16, .ref g] := by
    refine xr_iconst (n := 37) (v := 1) C dd_X9_shape_1.2.2.2.1 rfl rfl ?_
    obtain ⟨x_17, hx_17, hR⟩ := yf_b hR
    refine xr_callV (n := 40) (As := [.int r_16, .int 1]) (rest := []) C (kX9_start_r l D cy (g := g) (gth := gth) (gw := gw) (gB := gB) (gK := gK) (gU := gU) (gS := gS) (gbe := gbe) (gwo := gwo) (gta := gta) (gn := gn) (glr := glr) (glc := glc) (gti := gti) (ggo := ggo) (gR := gR) (gch := gch) (gD := gD) (i1 := r_16) (i2 := 1) hx_17) mX9_start u_1301 u_1303 u_29 0 rfl rfl 6 [0] [1, 2, 3, 4, 5] rfl (by decide +kernel) rfl rfl rfl rfl (Nat.le_of_ble_eq_true rfl) (Nat.le_of_ble_eq_true rfl) (Nat.le_of_ble_eq_true rfl) (Nat.le_of_ble_eq_true rfl) (Nat.le_of_ble_eq_true rfl) dd_X9_shape_1.2.2.2.2.1 rfl (fun v_18 u_19 hp_20 => ?_)
    obtain ⟨rfl, rfl⟩ := hp_20
    refine xr_perm C 6 [0, 1, 2, 3, 4, 5] [] [[(g, .inr (11, [.int x_17.2, .ref gw, .ref gB, .ref gK, .ref gU, .ref gS, .int gbe, .int gwo, .long gta, .ref gn, .int glr, .int glc, .int gti, .int ggo, .ref gR, .int gch, .ref gD]))], [(gw, .inr (10, [.int gwr, .int gwk, .int gwc, .int gwg, .int gws, .ref gwa, .ref gwb]))], [(gwa, .inl (cy 3, gwan, .inr (.inr (.inr (.inr (yad gwad))))))], xg_rows gwad gwan (cy 1) gwak gwaG, [(gwb, .inl (cy 3, gwbn, .inr (.inr (.inr (.inr (yad gwbd))))))], xg_rows gwbd gwbn (cy 1) gwbk gwbG] rfl (by decide +kernel) rfl ?_
    refine xr_st (st' := [.int x_17.1]) rfl ?_
    refine xr_if_eq (tgt := 45) (n := 43) C dd_X9_shape_1.2.2.2.2.2.1 rfl rfl (fun c_21 => ?_) (fun c_21 => ?_)
    · replace hR := yf_t c_21 hR
      refine xr_aload_n (n := 46) (j := 0) C dd_X9_shape_1.2.2.2.2.2.2.2.2.1 rfl rfl ?_
      refine xr_get (n := 49) C 0 rfl rfl 1 (by decide) in_X9 u_1238 rfl (v := .ref gw) rfl dd_X9_shape_1.2.2.2.2.2.2.2.2.2.1 rfl ?_
      refine xr_get (n := 52) C 1 rfl rfl 5 (by decide) in_X8 u_1211 rfl (v := .ref gwa) rfl dd_X9_shape_1.2.2.2.2.2.2.2.2.2.2.1 rfl ?_
      obtain ⟨x_22, hx_22, hR⟩ := yf_b hR
      refine xr_callSp (n := 55) (As := [.ref gwa]) (rest := []) C (kX9_others l D cy (h := gwa) (hd := gwad) (hn := gwan) (hk := gwak) (hG := gwaG) hx_22) mX9_others u_1309 u_1310 6 [2, 3] [0, 1, 4, 5] rfl (by decide +kernel) rfl rfl rfl rfl (Nat.le_of_ble_eq_true rfl) (Nat.le_of_ble_eq_true rfl) (Nat.le_of_ble_eq_true rfl) (Nat.le_of_ble_eq_true rfl) (Nat.le_of_ble_eq_true rfl) dd_X9_shape_1.2.2.2.2.2.2.2.2.2.2.2.1 rfl (fun _ _ hp => hp.2) (fun v_23 hp_25 => ?_)
      obtain ⟨rfl, -⟩ := hp_25
      refine xr_st (st' := [.int x_22]) rfl ?_
      refine xr_aload_n (n := 56) (j := 0) C dd_X9_shape_1.2.2.2.2.2.2.2.2.2.2.2.2.1 rfl rfl ?_
      refine xr_get (n := 59) C 0 rfl rfl 1 (by decide) in_X9 u_1238 rfl (v := .ref gw) rfl dd_X9_shape_1.2.2.2.2.2.2.2.2.2.2.2.2.2.1 rfl ?_
      refine xr_get (n := 62) C 1 rfl rfl 6 (by decide) in_X8 u_1213 rfl (v := .ref gwb) rfl dd_X9_shape_1.2.2.2.2.2.2.2.2.2.2.2.2.2.2.1 rfl ?_
      obtain ⟨x_26, hx_26, hR⟩ := yf_b hR
      refine xr_callSp (n := 65) (As := [.ref gwb]) (rest := [.int x_22]) C (kX9_others l D cy (h := gwb) (hd := gwbd) (hn := gwbn) (hk := gwbk) (hG := gwbG) hx_26) mX9_others u_1309 u_1310 6 [4, 5] [0, 1, 2, 3] rfl (by decide +kernel) rfl rfl rfl rfl (Nat.le_of_ble_eq_true rfl) (Nat.le_of_ble_eq_true rfl) (Nat.le_of_ble_eq_true rfl) (Nat.le_of_ble_eq_true rfl) (Nat.le_of_ble_eq_true rfl) dd_X9_shape_1.2.2.2.2.2.2.2.2.2.2.2.2.2.2.2.1 rfl (fun _ _ hp => hp.2) (fun v_27 hp_29 => ?_)
      obtain ⟨rfl, -⟩ := hp_29
      refine xr_st (st' := [.int x_26, .int x_22]) rfl ?_
      refine xr_iadd (n := 66) C dd_X9_shape_2.1 rfl ?_
      refine xr_istore (n := 68) C [(4, .int (x_22 + x_26)), (0, .ref g), (1, .int i1), (2, .int i2), (3, .int i3)] dd_X9_shape_2.2.1 (by decide) rfl rfl ?_
      refine xr_aload_n (n := 69) (j := 1) C dd_X9_shape_2.2.2.1 rfl rfl ?_
      refine xr_iload_n (n := 70) (j := 2) C dd_X9_shape_2.2.2.2.1 rfl rfl ?_
      refine xr_iload_n (n := 71) (j := 3) C dd_X9_shape_2.2.2.2.2.1 rfl rfl ?_
      refine xr_iload_n (n := 72) (j := 4) C dd_X9_shape_2.2.2.2.2.2.1 rfl rfl ?_
      obtain ⟨x_30, hx_30, hR⟩ := yf_b hR
      refine xr_callV (n := 75) (As := [.int i1, .int i2, .int i3]) (rest := []) C (kX9_lay_r l D cy (g := g) (gth := x_17.2) (gw := gw) (gB := gB) (gK := gK) (gU := gU) (gS := gS) (gbe := gbe) (gwo := gwo) (gta := gta) (gn := gn) (glr := glr) (glc := glc) (gti := gti) (ggo := ggo) (gR := gR) (gch := gch) (gD := gD) (gwr := gwr) (gwk := gwk) (gwc := gwc) (gwg := gwg) (gws := gws) (gwa := gwa) (gwb := gwb) (i1 := i1) (i2 := i2) (i3 := i3) hx_30) mX9_lay u_1233 u_1235 u_28 0 rfl rfl 6 [0, 1] [2, 3, 4, 5] rfl (by decide +kernel) rfl rfl rfl rfl (Nat.le_of_ble_eq_true rfl) (Nat.le_of_ble_eq_true rfl) (Nat.le_of_ble_eq_true rfl) (Nat.le_of_ble_eq_true rfl) (Nat.le_of_ble_eq_true rfl) dd_X9_shape_2.2.2.2.2.2.2.1 rfl (fun v_31 u_32 hp_33 => ?_)
      obtain ⟨q_34, q_35, q_36, q_37, rfl, rfl⟩ := hp_33
      refine xr_perm C 10 [0, 1, 6, 7, 8, 9, 2, 3, 4, 5] [] [[(g, .inr (11, [.int x_17.2, .ref gw, .ref gB, .ref gK, .ref gU, .ref gS, .int gbe, .int gwo, .long gta, .ref gn, .int glr, .int glc, .int gti, .int ggo, .ref gR, .int gch, .ref gD]))], [(gw, .inr (10, [.int x_30.1, .int x_30.2.1, .int x_30.2.2.1, .int gwg, .int gws, .ref q_34, .ref q_35]))], [(gwa, .inl (cy 3, gwan, .inr (.inr (.inr (.inr (yad gwad))))))], xg_rows gwad gwan (cy 1) gwak gwaG, [(gwb, .inl (cy 3, gwbn, .inr (.inr (.inr (.inr (yad gwbd))))))], xg_rows gwbd gwbn (cy 1) gwbk gwbG, [(q_34, .inl (cy 3, x_30.2.2.2.1, .inr (.inr (.inr (.inr (yad q_36))))))], xg_rows q_36 x_30.2.2.2.1 (cy 1) x_30.2.2.2.2.1 x_30.2.2.2.2.2.1, [(q_35, .inl (cy 3, x_30.2.2.2.2.2.2.1, .inr (.inr (.inr (.inr (yad q_37))))))], xg_rows q_37 x_30.2.2.2.2.2.2.1 (cy 1) x_30.2.2.2.2.2.2.2.1 x_30.2.2.2.2.2.2.2.2] rfl (by decide +kernel) rfl ?_
      refine xr_iload (n := 77) (j := 0) C dd_X9_shape_2.2.2.2.2.2.2.2.1 rfl rfl ?_
      obtain rfl := Option.some.inj hR
      refine xr_perm C 10 [0, 1, 6, 7, 8, 9] [2, 3, 4, 5] [[(g, .inr (11, [.int x_17.2, .ref gw, .ref gB, .ref gK, .ref gU, .ref gS, .int gbe, .int gwo, .long gta, .ref gn, .int glr, .int glc, .int gti, .int ggo, .ref gR, .int gch, .ref gD]))], [(gw, .inr (10, [.int x_30.1, .int x_30.2.1, .int x_30.2.2.1, .int gwg, .int gws, .ref q_34, .ref q_35]))], [(q_34, .inl (cy 3, x_30.2.2.2.1, .inr (.inr (.inr (.inr (yad q_36))))))], xg_rows q_36 x_30.2.2.2.1 (cy 1) x_30.2.2.2.2.1 x_30.2.2.2.2.2.1, [(q_35, .inl (cy 3, x_30.2.2.2.2.2.2.1, .inr (.inr (.inr (.inr (yad q_37))))))], xg_rows q_37 x_30.2.2.2.2.2.2.1 (cy 1) x_30.2.2.2.2.2.2.2.1 x_30.2.2.2.2.2.2.2.2] rfl (by decide +kernel) rfl ?_
      exact ret (x_22 + x_26) ⟨q_34, q_35, q_36, q_37, rfl, rfl⟩ (Nat.le_of_ble_eq_true rfl) (Nat.le_of_ble_eq_true rfl) dd_X9_shape_2.2.2.2.2.2.2.2.2.1
    · replace hR := yf_f c_21 hR
      refine xr_iconst (n := 44) (v := 0) C dd_X9_shape_1.2.2.2.2.2.2.1 rfl rfl ?_
      obtain rfl := Option.some.inj hR
      exact ret 0 ⟨gwa, gwb, gwad, gwbd, rfl, rfl⟩ (Nat.le_of_ble_eq_true rfl) (Nat.le_of_ble_eq_true rfl) dd_X9_shape_1.2.2.2.2.2.2.2.1
  refine xr_if_eq (tgt := 31) (n := 11) C dd_X9_shape_0.2.2.2.2.2.1 rfl rfl (fun c_38 => ?_) (fun c_38 => ?_)
  · replace hE_16 := yf_t c_38 hE_16
    refine xr_iconst (n := 32) (v := 1) C dd_X9_shape_1.1 rfl rfl ?_
    refine xr_goto (tgt := 36) C dd_X9_shape_1.2.1 rfl ?_
    have e_39 := Option.some.inj hE_16
    subst e_39
    exact J_16
  · replace hE_16 := yf_f c_38 hE_16
    refine xr_iload_n (n := 12) (j := 3) C dd_X9_shape_0.2.2.2.2.2.2.1 rfl rfl ?_
    refine xr_iconst (n := 13) (v := 1) C dd_X9_shape_0.2.2.2.2.2.2.2.1 rfl rfl ?_
    refine xr_bipush (n := 15) (v := 8) C dd_X9_shape_0.2.2.2.2.2.2.2.2.1 rfl rfl ?_
    obtain ⟨x_40, hx_40, hE_16⟩ := yf_b hE_16
    refine xr_callSp (n := 18) (As := [.int i3, .int 1, .int 8]) (rest := [.ref g]) C (kX9_isIn l D cy (i1 := i3) (i2 := 1) (i3 := 8) hx_40) mX9_isIn u_1298 u_1299 6 [] [0, 1, 2, 3, 4, 5] rfl (by decide +kernel) rfl rfl rfl rfl (Nat.le_of_ble_eq_true rfl) (Nat.le_of_ble_eq_true rfl) (Nat.le_of_ble_eq_true rfl) (Nat.le_of_ble_eq_true rfl) (Nat.le_of_ble_eq_true rfl) dd_X9_shape_0.2.2.2.2.2.2.2.2.2.1 rfl (fun _ _ hp => hp.2) (fun v_41 hp_43 => ?_)
    obtain ⟨rfl, -⟩ := hp_43
    refine xr_st (st' := [.int x_40, .ref g]) rfl ?_
    refine xr_if_eq (tgt := 31) (n := 21) C dd_X9_shape_0.2.2.2.2.2.2.2.2.2.2.1 rfl rfl (fun c_44 => ?_) (fun c_44 => ?_)
    · replace hE_16 := yf_t c_44 hE_16
      refine xr_iconst (n := 32) (v := 1) C dd_X9_shape_1.1 rfl rfl ?_
      refine xr_goto (tgt := 36) C dd_X9_shape_1.2.1 rfl ?_
      have e_45 := Option.some.inj hE_16
      subst e_45
      exact J_16
    · replace hE_16 := yf_f c_44 hE_16
      refine xr_iload_n (n := 22) (j := 2) C dd_X9_shape_0.2.2.2.2.2.2.2.2.2.2.2.1 rfl rfl ?_
      refine xr_iconst (n := 23) (v := 1) C dd_X9_shape_0.2.2.2.2.2.2.2.2.2.2.2.2.1 rfl rfl ?_
      refine xr_bipush (n := 25) (v := 6) C dd_X9_shape_0.2.2.2.2.2.2.2.2.2.2.2.2.2.1 rfl rfl ?_
      obtain ⟨x_46, hx_46, hE_16⟩ := yf_b hE_16
      refine xr_callSp (n := 28) (As := [.int i2, .int 1, .int 6]) (rest := [.ref g]) C (kX9_isIn l D cy (i1 := i2) (i2 := 1) (i3 := 6) hx_46) mX9_isIn u_1298 u_1299 6 [] [0, 1, 2, 3, 4, 5] rfl (by decide +kernel) rfl rfl rfl rfl (Nat.le_of_ble_eq_true rfl) (Nat.le_of_ble_eq_true rfl) (Nat.le_of_ble_eq_true rfl) (Nat.le_of_ble_eq_true rfl) (Nat.le_of_ble_eq_true rfl) dd_X9_shape_0.2.2.2.2.2.2.2.2.2.2.2.2.2.2.1 rfl (fun _ _ hp => hp.2) (fun v_47 hp_49 => ?_)
      obtain ⟨rfl, -⟩ := hp_49
      refine xr_st (st' := [.int x_46, .ref g]) rfl ?_
      refine xr_if_ne (tgt := 35) (n := 31) C dd_X9_shape_0.2.2.2.2.2.2.2.2.2.2.2.2.2.2.2.1 rfl rfl (fun c_50 => ?_) (fun c_50 => ?_)
      · replace hE_16 := yf_f c_50 hE_16
        refine xr_iconst (n := 36) (v := 0) C dd_X9_shape_1.2.2.1 rfl rfl ?_
        have e_51 := Option.some.inj hE_16
        subst e_51
        exact J_16
      · replace hE_16 := yf_t c_50 hE_16
        refine xr_iconst (n := 32) (v := 1) C dd_X9_shape_1.1 rfl rfl ?_
        refine xr_goto (tgt := 36) C dd_X9_shape_1.2.1 rfl ?_
        have e_52 := Option.some.inj hE_16
        subst e_52
        exact J_16
theorem dX9_bestLayout_1 : decode cX9_bestLayout 1 = .ok (.newarray .int, 2) := by decide +kernel
theorem dX9_bestLayout_92 : decode cX9_bestLayout 92 = .ok (.newarray .int, 2) := by decide +kernel
theorem dd_X9_bestLayout_0 : dk_R cX9_bestLayout [(0, .iconst 0, 1), (3, .astore_n 1, 1), (4, .iconst 0, 1), (5, .istore_n 2, 1), (6, .aload_n 0, 1), (7, .getfield 16, 3), (10, .invokevirtual 120, 3), (13, .istore_n 3, 1), (14, .iconst 1, 1), (15, .istore 4, 2), (17, .iload 4, 2), (19, .bipush 32, 2), (21, .if_icmp .ge 99, 3), (24, .iconst 1, 1), (25, .istore 5, 2), (27, .iload 5, 2)] := dk_use _ _ (by decide +kernel)
theorem dd_X9_bestLayout_1 : dk_R cX9_bestLayout [(29, .bipush 32, 2), (31, .if_icmp .ge 83, 3), (34, .aload_n 0, 1), (35, .iload 4, 2), (37, .iload 5, 2), (39, .invokevirtual 123, 3), (42, .ifCond .eq 6, 3), (45, .goto 63, 3), (48, .bipush 100, 2), (50, .aload_n 0, 1), (51, .getfield 16, 3), (54, .iload 4, 2), (56, .iload 5, 2), (58, .iload_n 3, 1), (59, .invokestatic 126, 3), (62, .imul, 1)] := dk_use _ _ (by decide +kernel)
theorem dd_X9_bestLayout_2 : dk_R cX9_bestLayout [(63, .iload 4, 2), (65, .invokestatic 103, 3), (68, .iload 5, 2), (70, .invokestatic 103, 3), (73, .imul, 1), (74, .iadd, 1), (75, .istore 6, 2), (77, .aload_n 1, 1), (78, .arraylength, 1), (79, .ifCond .le 12, 3), (82, .iload 6, 2), (84, .iload_n 2, 1), (85, .if_icmp .lt 6, 3), (88, .goto 20, 3), (91, .iconst 2, 1), (94, .dup, 1)] := dk_use _ _ (by decide +kernel)
theorem dd_X9_bestLayout_3 : dk_R cX9_bestLayout [(95, .iconst 0, 1), (96, .iload 4, 2), (98, .iastore, 1), (99, .dup, 1), (100, .iconst 1, 1), (101, .iload 5, 2), (103, .iastore, 1), (104, .astore_n 1, 1), (105, .iload 6, 2), (107, .istore_n 2, 1), (108, .iinc 5 1, 3), (111, .goto (-84), 3), (114, .iinc 4 1, 3), (117, .goto (-100), 3), (120, .aload_n 1, 1), (121, .areturn, 1)] := dk_use _ _ (by decide +kernel)
def fX9_bestLayout_i (gwr : Int32) (gwk : Int32) (gwc : Int32) (gwg : Int32) (gws : Int32) (gwan : Nat) (gwak : Nat) (gwaG : Nat → Nat → Int32) (gwbn : Nat) (gwbk : Nat) (gwbG : Nat → Nat → Int32) (gKG : Nat → Nat → Int32) : Option ((Nat → Int32) × Nat) := ((fX8_steps gwk gwg gwan gwak gwaG gwbn gwbk gwbG).bind fun x_2 => ((wl (S := Int32 × Int32 × (Nat → Int32) × Nat × Nat × Nat) (B := Int32 × Int32 × (Nat → Int32) × Nat × Nat × Nat) (fun s_6 => (if s_6.2.2.2.2.1 ≤ 30 ∧ s_6.2.2.2.2.2 ≤ 60 then (if 32 ≤ s_6.2.1 then some (.inr (s_6.1, s_6.2.1, s_6.2.2.1, s_6.2.2.2.1, s_6.2.2.2.2.1, s_6.2.2.2.2.2)) else ((wl (S := Int32 × Int32 × (Nat → Int32) × Nat × Nat × Nat) (B := Int32 × Int32 × (Nat → Int32) × Nat × Nat × Nat) (fun s_39 => (if s_39.2.2.2.2.1 ≤ 30 ∧ s_39.2.2.2.2.2 ≤ 60 then (if 32 ≤ s_39.2.1 then some (.inr (s_39.1, s_39.2.1, s_39.2.2.1, s_39.2.2.2.1, s_39.2.2.2.2.1, s_39.2.2.2.2.2)) else ((fX9_crosses_i gKG s_6.2.1 s_39.2.1).bind fun x_44 => (if x_44 = 0 then ((fX9_beatsOf gwr gwc gws s_6.2.1 s_39.2.1 x_2).bind fun x_49 => ((fJ6_bitCount_0f7a4 s_6.2.1).bind fun x_53 => ((fJ6_bitCount_0f7a4 s_39.2.1).bind fun x_57 => (if (nI s_39.2.2.2.1) ≤ 0 then (if s_39.2.2.2.2.1 + 1 ≤ 30 ∧ s_39.2.2.2.2.2 + 2 ≤ 60 then (if ¬ ((0 : Int32) < 0 ∨ 2 ≤ (0 : Int32).toNatClampNeg) then (if ¬ ((1 : Int32) < 0 ∨ 2 ≤ (1 : Int32).toNatClampNeg) then some (.inl ((100 * x_49) + (x_53 * x_57), s_39.2.1 + 1, upd (upd (fun _ => 0) (0 : Int32).toNatClampNeg s_6.2.1) (1 : Int32).toNatClampNeg s_39.2.1, 2, s_39.2.2.2.2.1 + 1, s_39.2.2.2.2.2 + 2)) else none) else none) else none) else (if ((100 * x_49) + (x_53 * x_57)) < s_39.1 then (if s_39.2.2.2.2.1 + 1 ≤ 30 ∧ s_39.2.2.2.2.2 + 2 ≤ 60 then (if ¬ ((0 : Int32) < 0 ∨ 2 ≤ (0 : Int32).toNatClampNeg) then (if ¬ ((1 : Int32) < 0 ∨ 2 ≤ (1 : Int32).toNatClampNeg) then some (.inl ((100 * x_49) + (x_53 * x_57), s_39.2.1 + 1, upd (upd (fun _ => 0) (0 : Int32).toNatClampNeg s_6.2.1) (1 : Int32).toNatClampNeg s_39.2.1, 2, s_39.2.2.2.2.1 + 1, s_39.2.2.2.2.2 + 2)) else none) else none) else none) else some (.inl (s_39.1, s_39.2.1 + 1, s_39.2.2.1, s_39.2.2.2.1, s_39.2.2.2.2.1, s_39.2.2.2.2.2))))))) else some (.inl (s_39.1, s_39.2.1 + 1, s_39.2.2.1, s_39.2.2.2.1, s_39.2.2.2.2.1, s_39.2.2.2.2.2))))) else none)) yFuel (s_6.1, 1, s_6.2.2.1, s_6.2.2.2.1, s_6.2.2.2.2.1, s_6.2.2.2.2.2)).bind fun b_39 => (if b_39.2.2.2.2.1 ≤ 30 ∧ b_39.2.2.2.2.2 ≤ 60 then some (.inl (b_39.1, s_6.2.1 + 1, b_39.2.2.1, b_39.2.2.2.1, b_39.2.2.2.2.1, b_39.2.2.2.2.2)) else none))) else none)) yFuel (0, 1, fun _ => 0, 0, 0 + 1, 0 + 0)).bind fun b_6 => (if b_6.2.2.2.2.1 ≤ 30 ∧ b_6.2.2.2.2.2 ≤ 60 then some (b_6.2.2.1, b_6.2.2.2.1) else none)))
abbrev hX9_bestLayout : Cond := .code yX9_bestLayout cX9_bestLayout 7 (some (.array .int))
theorem mX9_bestLayout : yM yX9_bestLayout hX9_bestLayout 0 := ⟨u_1358, u_64, by decide +kernel, by decide +kernel, by decide +kernel⟩
set_option maxHeartbeats 4000000 in
set_option maxRecDepth 100000 in
theorem kX9_bestLayout_i (l : Launch) (D : va_G) (cy : Nat → ClassId) (g : Nat) (gth : Int32) (gw : Nat) (gB : Nat) (gK : Nat) (gU : Nat) (gS : Nat) (gbe : Int32) (gwo : Int32) (gta : Int64) (glr : Int32) (glc : Int32) (gti : Int32) (ggo : Int32) (gR : Nat) (gch : Int32) (gD : Nat) (gwr : Int32) (gwk : Int32) (gwc : Int32) (gwg : Int32) (gws : Int32) (gwa : Nat) (gwb : Nat) (gwad : Nat → Nat) (gwan : Nat) (gwak : Nat) (gwaG : Nat → Nat → Int32) (gwbd : Nat → Nat) (gwbn : Nat) (gwbk : Nat) (gwbG : Nat → Nat → Int32) (gKd : Nat → Nat) (gKG : Nat → Nat → Int32) {res : (Nat → Int32) × Nat} (hR : fX9_bestLayout_i gwr gwk gwc gwg gws gwan gwak gwaG gwbn gwbk gwbG gKG = some res) : YM l D cy yX9_bestLayout hX9_bestLayout 4 30 60 [.ref g] [[(g, .inr (11, [.int gth, .ref gw, .ref gB, .ref gK, .ref gU, .ref gS, .int gbe, .int gwo, .long gta, .null, .int glr, .int glc, .int gti, .int ggo, .ref gR, .int gch, .ref gD]))], [(gw, .inr (10, [.int gwr, .int gwk, .int gwc, .int gwg, .int gws, .ref gwa, .ref gwb]))], [(gwa, .inl (cy 3, gwan, .inr (.inr (.inr (.inr (yad gwad))))))], xg_rows gwad gwan (cy 1) gwak gwaG, [(gwb, .inl (cy 3, gwbn, .inr (.inr (.inr (.inr (yad gwbd))))))], xg_rows gwbd gwbn (cy 1) gwbk gwbG, [(gK, .inl (cy 4, 5, .inr (.inr (.inr (.inr (yad gKd))))))], xg_rows gKd 5 (cy 2) 5 gKG] (fun v u => ∃ bq : Nat, v = some (.ref bq) ∧ u = [[(g, .inr (11, [.int gth, .ref gw, .ref gB, .ref gK, .ref gU, .ref gS, .int gbe, .int gwo, .long gta, .null, .int glr, .int glc, .int gti, .int ggo, .ref gR, .int gch, .ref gD]))], [(gw, .inr (10, [.int gwr, .int gwk, .int gwc, .int gwg, .int gws, .ref gwa, .ref gwb]))], [(gwa, .inl (cy 3, gwan, .inr (.inr (.inr (.inr (yad gwad))))))], xg_rows gwad gwan (cy 1) gwak gwaG, [(gwb, .inl (cy 3, gwbn, .inr (.inr (.inr (.inr (yad gwbd))))))], xg_rows gwbd gwbn (cy 1) gwbk gwbG, [(gK, .inl (cy 4, 5, .inr (.inr (.inr (.inr (yad gKd))))))], xg_rows gKd 5 (cy 2) 5 gKG, [(bq, .inl (cy 1, res.2, .inl res.1))]]) := by
  unfold fX9_bestLayout_i at hR
  refine YM.ofA (cc := cX9_bestLayout) (maxL := 7) (ret := (some (.array .int))) (by decide +kernel) rfl (Nat.le_of_ble_eq_true rfl) [(0, .ref g)] rfl (.array .int) rfl (Or.inr ⟨_, rfl⟩) (fun p e s m args below meth c A H0 Q C hnm ret => ?_)
  refine xr_iconst (n := 1) (v := 0) C dd_X9_bestLayout_0.1 rfl rfl ?_
  refine xr_newa (n := 3) C u_108 (by decide) (N' := 0) (by decide) (by decide) (Nat.le_of_ble_eq_true rfl) (Nat.le_of_ble_eq_true rfl) dX9_bestLayout_1 rfl (fun q_1 => ?_)
  refine xr_eq (bs' := [[(g, .inr (11, [.int gth, .ref gw, .ref gB, .ref gK, .ref gU, .ref gS, .int gbe, .int gwo, .long gta, .null, .int glr, .int glc, .int gti, .int ggo, .ref gR, .int gch, .ref gD]))], [(gw, .inr (10, [.int gwr, .int gwk, .int gwc, .int gwg, .int gws, .ref gwa, .ref gwb]))], [(gwa, .inl (cy 3, gwan, .inr (.inr (.inr (.inr (yad gwad))))))], xg_rows gwad gwan (cy 1) gwak gwaG, [(gwb, .inl (cy 3, gwbn, .inr (.inr (.inr (.inr (yad gwbd))))))], xg_rows gwbd gwbn (cy 1) gwbk gwbG, [(gK, .inl (cy 4, 5, .inr (.inr (.inr (.inr (yad gKd))))))], xg_rows gKd 5 (cy 2) 5 gKG, [(q_1, .inl (cy 1, 0, .inl (fun _ => 0)))]]) rfl ?_
  refine xr_astore_n (n := 4) C [(1, .ref q_1), (0, .ref g)] dd_X9_bestLayout_0.2.1 (by decide) rfl rfl ?_
  refine xr_iconst (n := 5) (v := 0) C dd_X9_bestLayout_0.2.2.1 rfl rfl ?_
  refine xr_istore_n (n := 6) C [(2, .int 0), (1, .ref q_1), (0, .ref g)] dd_X9_bestLayout_0.2.2.2.1 (by decide) rfl rfl ?_
  refine xr_aload_n (n := 7) (j := 2) C dd_X9_bestLayout_0.2.2.2.2.1 rfl rfl ?_
  refine xr_get (n := 10) C 0 rfl rfl 1 (by decide) in_X9 u_1238 rfl (v := .ref gw) rfl dd_X9_bestLayout_0.2.2.2.2.2.1 rfl ?_
  obtain ⟨x_2, hx_2, hR⟩ := yf_b hR
  refine xr_callVp (n := 13) (As := []) (rest := []) C (kX8_steps l D cy (w := gw) (wr := gwr) (wk := gwk) (wc := gwc) (wg := gwg) (ws := gws) (wa := gwa) (wb := gwb) (wad := gwad) (wan := gwan) (wak := gwak) (waG := gwaG) (wbd := gwbd) (wbn := gwbn) (wbk := gwbk) (wbG := gwbG) hx_2) mX8_steps u_1359 u_1360 u_1361 1 rfl rfl 9 [1, 2, 3, 4, 5] [0, 6, 7, 8] rfl (by decide +kernel) rfl rfl rfl rfl (Nat.le_of_ble_eq_true rfl) (Nat.le_of_ble_eq_true rfl) (Nat.le_of_ble_eq_true rfl) (Nat.le_of_ble_eq_true rfl) (Nat.le_of_ble_eq_true rfl) dd_X9_bestLayout_0.2.2.2.2.2.2.1 rfl (fun _ _ hp => hp.2) (fun v_3 hp_5 => ?_)
  obtain ⟨rfl, -⟩ := hp_5
  refine xr_st (st' := [.int x_2]) rfl ?_
  refine xr_istore_n (n := 14) C [(3, .int x_2), (2, .int 0), (1, .ref q_1), (0, .ref g)] dd_X9_bestLayout_0.2.2.2.2.2.2.2.1 (by decide) rfl rfl ?_
  refine xr_iconst (n := 15) (v := 1) C dd_X9_bestLayout_0.2.2.2.2.2.2.2.2.1 rfl rfl ?_
  refine xr_istore (n := 17) C [(4, .int 1), (3, .int x_2), (2, .int 0), (1, .ref q_1), (0, .ref g)] dd_X9_bestLayout_0.2.2.2.2.2.2.2.2.2.1 (by decide) rfl rfl ?_
  refine xr_lv (lv' := [(0, .ref g), (1, .ref q_1), (2, .int 0), (3, .int x_2), (4, .int 1)]) [4, 3, 2, 1, 0] rfl ?_
  obtain ⟨b_6, hb_6, hR⟩ := yf_b hR
  have K_6 : ∀ a0_6 : Nat, X p l e (yR 4 30 60) s m args below meth c D A H0 7 Q [[(g, .inr (11, [.int gth, .ref gw, .ref gB, .ref gK, .ref gU, .ref gS, .int gbe, .int gwo, .long gta, .null, .int glr, .int glc, .int gti, .int ggo, .ref gR, .int gch, .ref gD]))], [(gw, .inr (10, [.int gwr, .int gwk, .int gwc, .int gwg, .int gws, .ref gwa, .ref gwb]))], [(gwa, .inl (cy 3, gwan, .inr (.inr (.inr (.inr (yad gwad))))))], xg_rows gwad gwan (cy 1) gwak gwaG, [(gwb, .inl (cy 3, gwbn, .inr (.inr (.inr (.inr (yad gwbd))))))], xg_rows gwbd gwbn (cy 1) gwbk gwbG, [(gK, .inl (cy 4, 5, .inr (.inr (.inr (.inr (yad gKd))))))], xg_rows gKd 5 (cy 2) 5 gKG, [(a0_6, .inl (cy 1, b_6.2.2.2.1, .inl b_6.2.2.1))]] b_6.2.2.2.2.1 b_6.2.2.2.2.2 [(1, .ref a0_6)] 120 [] := by
    intro a0_6
    obtain ⟨g_7, hR⟩ := yf_g hR
    refine xr_aload_n (n := 121) (j := 0) C dd_X9_bestLayout_3.2.2.2.2.2.2.2.2.2.2.2.2.2.2.1 rfl rfl ?_
    obtain rfl := Option.some.inj hR
    exact ret a0_6 ⟨a0_6, rfl, rfl⟩ g_7.1 g_7.2 dd_X9_bestLayout_3.2.2.2.2.2.2.2.2.2.2.2.2.2.2.2.1
  refine y_loop (P := fun (s_6 : Int32 × Int32 × (Nat → Int32) × Nat × Nat × Nat) => ∀ a0_6 : Nat, X p l e (yR 4 30 60) s m args below meth c D A H0 7 Q [[(g, .inr (11, [.int gth, .ref gw, .ref gB, .ref gK, .ref gU, .ref gS, .int gbe, .int gwo, .long gta, .null, .int glr, .int glc, .int gti, .int ggo, .ref gR, .int gch, .ref gD]))], [(gw, .inr (10, [.int gwr, .int gwk, .int gwc, .int gwg, .int gws, .ref gwa, .ref gwb]))], [(gwa, .inl (cy 3, gwan, .inr (.inr (.inr (.inr (yad gwad))))))], xg_rows gwad gwan (cy 1) gwak gwaG, [(gwb, .inl (cy 3, gwbn, .inr (.inr (.inr (.inr (yad gwbd))))))], xg_rows gwbd gwbn (cy 1) gwbk gwbG, [(gK, .inl (cy 4, 5, .inr (.inr (.inr (.inr (yad gKd))))))], xg_rows gKd 5 (cy 2) 5 gKG, [(a0_6, .inl (cy 1, s_6.2.2.2.1, .inl s_6.2.2.1))]] s_6.2.2.2.2.1 s_6.2.2.2.2.2 [(0, .ref g), (1, .ref a0_6), (2, .int s_6.1), (3, .int x_2), (4, .int s_6.2.1)] 17 []) ?_ _ (0, 1, fun _ => 0, 0, 0 + 1, 0 + 0) hb_6 q_1
  intro s_6 o_6 ho_6 hk_6 hx_6 a0_6
  obtain ⟨g_8, ho_6⟩ := yf_g ho_6
  refine xr_iload (n := 19) (j := 4) C dd_X9_bestLayout_0.2.2.2.2.2.2.2.2.2.2.1 rfl rfl ?_
  refine xr_bipush (n := 21) (v := 32) C dd_X9_bestLayout_0.2.2.2.2.2.2.2.2.2.2.2.1 rfl rfl ?_
  refine xr_icmp_ge (tgt := 120) (n := 24) C dd_X9_bestLayout_0.2.2.2.2.2.2.2.2.2.2.2.2.1 rfl rfl (fun c_9 => ?_) (fun c_9 => ?_)
  · replace ho_6 := yf_t c_9 ho_6
    refine xr_lv (lv' := [(1, .ref a0_6)]) [1] rfl ?_
    have e_10 := hx_6 _ (Option.some.inj ho_6).symm
    subst e_10
    exact K_6 a0_6
  · replace ho_6 := yf_f c_9 ho_6
    refine xr_iconst (n := 25) (v := 1) C dd_X9_bestLayout_0.2.2.2.2.2.2.2.2.2.2.2.2.2.1 rfl rfl ?_
    refine xr_istore (n := 27) C [(5, .int 1), (0, .ref g), (1, .ref a0_6), (2, .int s_6.1), (3, .int x_2), (4, .int s_6.2.1)] dd_X9_bestLayout_0.2.2.2.2.2.2.2.2.2.2.2.2.2.2.1 (by decide) rfl rfl ?_
    refine xr_lv (lv' := [(0, .ref g), (1, .ref a0_6), (2, .int s_6.1), (3, .int x_2), (4, .int s_6.2.1), (5, .int 1)]) [1, 2, 3, 4, 5, 0] rfl ?_
    obtain ⟨b_39, hb_39, ho_6⟩ := yf_b ho_6
    have K_39 : ∀ a0_39 : Nat, X p l e (yR 4 30 60) s m args below meth c D A H0 7 Q [[(g, .inr (11, [.int gth, .ref gw, .ref gB, .ref gK, .ref gU, .ref gS, .int gbe, .int gwo, .long gta, .null, .int glr, .int glc, .int gti, .int ggo, .ref gR, .int gch, .ref gD]))], [(gw, .inr (10, [.int gwr, .int gwk, .int gwc, .int gwg, .int gws, .ref gwa, .ref gwb]))], [(gwa, .inl (cy 3, gwan, .inr (.inr (.inr (.inr (yad gwad))))))], xg_rows gwad gwan (cy 1) gwak gwaG, [(gwb, .inl (cy 3, gwbn, .inr (.inr (.inr (.inr (yad gwbd))))))], xg_rows gwbd gwbn (cy 1) gwbk gwbG, [(gK, .inl (cy 4, 5, .inr (.inr (.inr (.inr (yad gKd))))))], xg_rows gKd 5 (cy 2) 5 gKG, [(a0_39, .inl (cy 1, b_39.2.2.2.1, .inl b_39.2.2.1))]] b_39.2.2.2.2.1 b_39.2.2.2.2.2 [(0, .ref g), (1, .ref a0_39), (2, .int b_39.1), (3, .int x_2), (4, .int s_6.2.1)] 114 [] := by
      intro a0_39
      obtain ⟨g_40, ho_6⟩ := yf_g ho_6
      refine xr_iinc (j := 4) (v := s_6.2.1 + 1) (n := 117) C [(4, .int (s_6.2.1 + 1)), (0, .ref g), (1, .ref a0_39), (2, .int b_39.1), (3, .int x_2)] dd_X9_bestLayout_3.2.2.2.2.2.2.2.2.2.2.2.2.1 rfl rfl (by decide) rfl rfl ?_
      refine xr_goto (tgt := 17) C dd_X9_bestLayout_3.2.2.2.2.2.2.2.2.2.2.2.2.2.1 rfl ?_
      refine xr_lv (lv' := [(0, .ref g), (1, .ref a0_39), (2, .int b_39.1), (3, .int x_2), (4, .int (s_6.2.1 + 1))]) [1, 2, 3, 4, 0] rfl ?_
      exact hk_6 (b_39.1, s_6.2.1 + 1, b_39.2.2.1, b_39.2.2.2.1, b_39.2.2.2.2.1, b_39.2.2.2.2.2) (Option.some.inj ho_6).symm a0_39
    refine y_loop (P := fun (s_39 : Int32 × Int32 × (Nat → Int32) × Nat × Nat × Nat) => ∀ a0_39 : Nat, X p l e (yR 4 30 60) s m args below meth c D A H0 7 Q [[(g, .inr (11, [.int gth, .ref gw, .ref gB, .ref gK, .ref gU, .ref gS, .int gbe, .int gwo, .long gta, .null, .int glr, .int glc, .int gti, .int ggo, .ref gR, .int gch, .ref gD]))], [(gw, .inr (10, [.int gwr, .int gwk, .int gwc, .int gwg, .int gws, .ref gwa, .ref gwb]))], [(gwa, .inl (cy 3, gwan, .inr (.inr (.inr (.inr (yad gwad))))))], xg_rows gwad gwan (cy 1) gwak gwaG, [(gwb, .inl (cy 3, gwbn, .inr (.inr (.inr (.inr (yad gwbd))))))], xg_rows gwbd gwbn (cy 1) gwbk gwbG, [(gK, .inl (cy 4, 5, .inr (.inr (.inr (.inr (yad gKd))))))], xg_rows gKd 5 (cy 2) 5 gKG, [(a0_39, .inl (cy 1, s_39.2.2.2.1, .inl s_39.2.2.1))]] s_39.2.2.2.2.1 s_39.2.2.2.2.2 [(0, .ref g), (1, .ref a0_39), (2, .int s_39.1), (3, .int x_2), (4, .int s_6.2.1), (5, .int s_39.2.1)] 27 []) ?_ _ (s_6.1, 1, s_6.2.2.1, s_6.2.2.2.1, s_6.2.2.2.2.1, s_6.2.2.2.2.2) hb_39 a0_6
    intro s_39 o_39 ho_39 hk_39 hx_39 a0_39
    obtain ⟨g_41, ho_39⟩ := yf_g ho_39
    refine xr_iload (n := 29) (j := 5) C dd_X9_bestLayout_0.2.2.2.2.2.2.2.2.2.2.2.2.2.2.2.1 rfl rfl ?_
    refine xr_bipush (n := 31) (v := 32) C dd_X9_bestLayout_1.1 rfl rfl ?_
    refine xr_icmp_ge (tgt := 114) (n := 34) C dd_X9_bestLayout_1.2.1 rfl rfl (fun c_42 => ?_) (fun c_42 => ?_)
    · replace ho_39 := yf_t c_42 ho_39
      refine xr_lv (lv' := [(0, .ref g), (1, .ref a0_39), (2, .int s_39.1), (3, .int x_2), (4, .int s_6.2.1)]) [0, 1, 2, 3, 4] rfl ?_
      have e_43 := hx_39 _ (Option.some.inj ho_39).symm
      subst e_43
      exact K_39 a0_39
    · replace ho_39 := yf_f c_42 ho_39
      refine xr_aload_n (n := 35) (j := 0) C dd_X9_bestLayout_1.2.2.1 rfl rfl ?_
      refine xr_iload (n := 37) (j := 4) C dd_X9_bestLayout_1.2.2.2.1 rfl rfl ?_
      refine xr_iload (n := 39) (j := 5) C dd_X9_bestLayout_1.2.2.2.2.1 rfl rfl ?_
      obtain ⟨x_44, hx_44, ho_39⟩ := yf_b ho_39
      refine xr_callVp (n := 42) (As := [.int s_6.2.1, .int s_39.2.1]) (rest := []) C (kX9_crosses_i l D cy (g := g) (gth := gth) (gw := gw) (gB := gB) (gK := gK) (gU := gU) (gS := gS) (gbe := gbe) (gwo := gwo) (gta := gta) (glr := glr) (glc := glc) (gti := gti) (ggo := ggo) (gR := gR) (gch := gch) (gD := gD) (gKd := gKd) (gKG := gKG) (i1 := s_6.2.1) (i2 := s_39.2.1) hx_44) mX9_crosses u_1373 u_1375 u_33 0 rfl rfl 9 [0, 6, 7] [1, 2, 3, 4, 5, 8] rfl (by decide +kernel) rfl rfl rfl rfl (Nat.le_of_ble_eq_true rfl) (Nat.le_of_ble_eq_true rfl) (Nat.le_of_ble_eq_true rfl) g_41.1 g_41.2 dd_X9_bestLayout_1.2.2.2.2.2.1 rfl (fun _ _ hp => hp.2) (fun v_45 hp_47 => ?_)
      obtain ⟨rfl, -⟩ := hp_47
      refine xr_st (st' := [.int x_44]) rfl ?_
      refine xr_if_eq (tgt := 48) (n := 45) C dd_X9_bestLayout_1.2.2.2.2.2.2.1 rfl rfl (fun c_48 => ?_) (fun c_48 => ?_)
      · replace ho_39 := yf_t c_48 ho_39
        refine xr_bipush (n := 50) (v := 100) C dd_X9_bestLayout_1.2.2.2.2.2.2.2.2.1 rfl rfl ?_
        refine xr_aload_n (n := 51) (j := 0) C dd_X9_bestLayout_1.2.2.2.2.2.2.2.2.2.1 rfl rfl ?_
        refine xr_get (n := 54) C 0 rfl rfl 1 (by decide) in_X9 u_1238 rfl (v := .ref gw) rfl dd_X9_bestLayout_1.2.2.2.2.2.2.2.2.2.2.1 rfl ?_
        refine xr_iload (n := 56) (j := 4) C dd_X9_bestLayout_1.2.2.2.2.2.2.2.2.2.2.2.1 rfl rfl ?_
        refine xr_iload (n := 58) (j := 5) C dd_X9_bestLayout_1.2.2.2.2.2.2.2.2.2.2.2.2.1 rfl rfl ?_
        refine xr_iload_n (n := 59) (j := 3) C dd_X9_bestLayout_1.2.2.2.2.2.2.2.2.2.2.2.2.2.1 rfl rfl ?_
        obtain ⟨x_49, hx_49, ho_39⟩ := yf_b ho_39
        refine xr_callSp (n := 62) (As := [.ref gw, .int s_6.2.1, .int s_39.2.1, .int x_2]) (rest := [.int 100]) C (kX9_beatsOf l D cy (w := gw) (wr := gwr) (wk := gwk) (wc := gwc) (wg := gwg) (ws := gws) (wa := gwa) (wb := gwb) (i1 := s_6.2.1) (i2 := s_39.2.1) (i3 := x_2) hx_49) mX9_beatsOf u_1380 u_1381 9 [1] [0, 2, 3, 4, 5, 6, 7, 8] rfl (by decide +kernel) rfl rfl rfl rfl (Nat.le_of_ble_eq_true rfl) (Nat.le_of_ble_eq_true rfl) (Nat.le_of_ble_eq_true rfl) g_41.1 g_41.2 dd_X9_bestLayout_1.2.2.2.2.2.2.2.2.2.2.2.2.2.2.1 rfl (fun _ _ hp => hp.2) (fun v_50 hp_52 => ?_)
        obtain ⟨rfl, -⟩ := hp_52
        refine xr_st (st' := [.int x_49, .int 100]) rfl ?_
        refine xr_imul (n := 63) C dd_X9_bestLayout_1.2.2.2.2.2.2.2.2.2.2.2.2.2.2.2.1 rfl ?_
        refine xr_iload (n := 65) (j := 4) C dd_X9_bestLayout_2.1 rfl rfl ?_
        obtain ⟨x_53, hx_53, ho_39⟩ := yf_b ho_39
        refine xr_callSp (n := 68) (As := [.int s_6.2.1]) (rest := [.int (100 * x_49)]) C (kJ6_bitCount_0f7a4 l D cy (i1 := s_6.2.1) hx_53) mJ6_bitCount_0f7a4 u_1383 u_349 9 [] [0, 1, 2, 3, 4, 5, 6, 7, 8] rfl (by decide +kernel) rfl rfl rfl rfl (Nat.le_of_ble_eq_true rfl) (Nat.le_of_ble_eq_true rfl) (Nat.le_of_ble_eq_true rfl) g_41.1 g_41.2 dd_X9_bestLayout_2.2.1 rfl (fun _ _ hp => hp.2) (fun v_54 hp_56 => ?_)
        obtain ⟨rfl, -⟩ := hp_56
        refine xr_st (st' := [.int x_53, .int (100 * x_49)]) rfl ?_
        refine xr_iload (n := 70) (j := 5) C dd_X9_bestLayout_2.2.2.1 rfl rfl ?_
        obtain ⟨x_57, hx_57, ho_39⟩ := yf_b ho_39
        refine xr_callSp (n := 73) (As := [.int s_39.2.1]) (rest := [.int x_53, .int (100 * x_49)]) C (kJ6_bitCount_0f7a4 l D cy (i1 := s_39.2.1) hx_57) mJ6_bitCount_0f7a4 u_1383 u_349 9 [] [0, 1, 2, 3, 4, 5, 6, 7, 8] rfl (by decide +kernel) rfl rfl rfl rfl (Nat.le_of_ble_eq_true rfl) (Nat.le_of_ble_eq_true rfl) (Nat.le_of_ble_eq_true rfl) g_41.1 g_41.2 dd_X9_bestLayout_2.2.2.2.1 rfl (fun _ _ hp => hp.2) (fun v_58 hp_60 => ?_)
        obtain ⟨rfl, -⟩ := hp_60
        refine xr_st (st' := [.int x_57, .int x_53, .int (100 * x_49)]) rfl ?_
        refine xr_imul (n := 74) C dd_X9_bestLayout_2.2.2.2.2.1 rfl ?_
        refine xr_iadd (n := 75) C dd_X9_bestLayout_2.2.2.2.2.2.1 rfl ?_
        refine xr_istore (n := 77) C [(6, .int ((100 * x_49) + (x_53 * x_57))), (0, .ref g), (1, .ref a0_39), (2, .int s_39.1), (3, .int x_2), (4, .int s_6.2.1), (5, .int s_39.2.1)] dd_X9_bestLayout_2.2.2.2.2.2.2.1 (by decide) rfl rfl ?_
        refine xr_aload_n (n := 78) (j := 2) C dd_X9_bestLayout_2.2.2.2.2.2.2.2.1 rfl rfl ?_
        refine xr_alen (n := 79) C 8 0 rfl 1 rfl rfl dd_X9_bestLayout_2.2.2.2.2.2.2.2.2.1 rfl ?_
        refine xr_if_le (tgt := 91) (n := 82) C dd_X9_bestLayout_2.2.2.2.2.2.2.2.2.2.1 rfl rfl (fun c_61 => ?_) (fun c_61 => ?_)
        · replace ho_39 := yf_t c_61 ho_39
          refine xr_iconst (n := 92) (v := 2) C dd_X9_bestLayout_2.2.2.2.2.2.2.2.2.2.2.2.2.2.2.1 rfl rfl ?_
          obtain ⟨g_63, ho_39⟩ := yf_g ho_39
          refine xr_newa (n := 94) C u_108 (by decide) (N' := 2) (by decide) (by decide) g_63.1 g_63.2 dX9_bestLayout_92 rfl (fun q_62 => ?_)
          refine xr_eq (bs' := [[(g, .inr (11, [.int gth, .ref gw, .ref gB, .ref gK, .ref gU, .ref gS, .int gbe, .int gwo, .long gta, .null, .int glr, .int glc, .int gti, .int ggo, .ref gR, .int gch, .ref gD]))], [(gw, .inr (10, [.int gwr, .int gwk, .int gwc, .int gwg, .int gws, .ref gwa, .ref gwb]))], [(gwa, .inl (cy 3, gwan, .inr (.inr (.inr (.inr (yad gwad))))))], xg_rows gwad gwan (cy 1) gwak gwaG, [(gwb, .inl (cy 3, gwbn, .inr (.inr (.inr (.inr (yad gwbd))))))], xg_rows gwbd gwbn (cy 1) gwbk gwbG, [(gK, .inl (cy 4, 5, .inr (.inr (.inr (.inr (yad gKd))))))], xg_rows gKd 5 (cy 2) 5 gKG, [(a0_39, .inl (cy 1, s_39.2.2.2.1, .inl s_39.2.2.1))], [(q_62, .inl (cy 1, 2, .inl (fun _ => 0)))]]) rfl ?_
          refine xr_dup (n := 95) C dd_X9_bestLayout_2.2.2.2.2.2.2.2.2.2.2.2.2.2.2.2.1 rfl rfl ?_
          refine xr_iconst (n := 96) (v := 0) C dd_X9_bestLayout_3.1 rfl rfl ?_
          refine xr_iload (n := 98) (j := 5) C dd_X9_bestLayout_3.2.1 rfl rfl ?_
          obtain ⟨g_64, ho_39⟩ := yf_g ho_39
          refine xr_iast (n := 99) C 9 0 rfl rfl g_64 [[(g, .inr (11, [.int gth, .ref gw, .ref gB, .ref gK, .ref gU, .ref gS, .int gbe, .int gwo, .long gta, .null, .int glr, .int glc, .int gti, .int ggo, .ref gR, .int gch, .ref gD]))], [(gw, .inr (10, [.int gwr, .int gwk, .int gwc, .int gwg, .int gws, .ref gwa, .ref gwb]))], [(gwa, .inl (cy 3, gwan, .inr (.inr (.inr (.inr (yad gwad))))))], xg_rows gwad gwan (cy 1) gwak gwaG, [(gwb, .inl (cy 3, gwbn, .inr (.inr (.inr (.inr (yad gwbd))))))], xg_rows gwbd gwbn (cy 1) gwbk gwbG, [(gK, .inl (cy 4, 5, .inr (.inr (.inr (.inr (yad gKd))))))], xg_rows gKd 5 (cy 2) 5 gKG, [(a0_39, .inl (cy 1, s_39.2.2.2.1, .inl s_39.2.2.1))], [(q_62, .inl (cy 1, 2, .inl (upd (fun _ => 0) (0 : Int32).toNatClampNeg s_6.2.1)))]] rfl dd_X9_bestLayout_3.2.2.1 rfl ?_
          refine xr_dup (n := 100) C dd_X9_bestLayout_3.2.2.2.1 rfl rfl ?_
          refine xr_iconst (n := 101) (v := 1) C dd_X9_bestLayout_3.2.2.2.2.1 rfl rfl ?_
          refine xr_iload (n := 103) (j := 6) C dd_X9_bestLayout_3.2.2.2.2.2.1 rfl rfl ?_
          obtain ⟨g_65, ho_39⟩ := yf_g ho_39
          refine xr_iast (n := 104) C 9 0 rfl rfl g_65 [[(g, .inr (11, [.int gth, .ref gw, .ref gB, .ref gK, .ref gU, .ref gS, .int gbe, .int gwo, .long gta, .null, .int glr, .int glc, .int gti, .int ggo, .ref gR, .int gch, .ref gD]))], [(gw, .inr (10, [.int gwr, .int gwk, .int gwc, .int gwg, .int gws, .ref gwa, .ref gwb]))], [(gwa, .inl (cy 3, gwan, .inr (.inr (.inr (.inr (yad gwad))))))], xg_rows gwad gwan (cy 1) gwak gwaG, [(gwb, .inl (cy 3, gwbn, .inr (.inr (.inr (.inr (yad gwbd))))))], xg_rows gwbd gwbn (cy 1) gwbk gwbG, [(gK, .inl (cy 4, 5, .inr (.inr (.inr (.inr (yad gKd))))))], xg_rows gKd 5 (cy 2) 5 gKG, [(a0_39, .inl (cy 1, s_39.2.2.2.1, .inl s_39.2.2.1))], [(q_62, .inl (cy 1, 2, .inl (upd (upd (fun _ => 0) (0 : Int32).toNatClampNeg s_6.2.1) (1 : Int32).toNatClampNeg s_39.2.1)))]] rfl dd_X9_bestLayout_3.2.2.2.2.2.2.1 rfl ?_
          refine xr_astore_n (n := 105) C [(1, .ref q_62), (6, .int ((100 * x_49) + (x_53 * x_57))), (0, .ref g), (2, .int s_39.1), (3, .int x_2), (4, .int s_6.2.1), (5, .int s_39.2.1)] dd_X9_bestLayout_3.2.2.2.2.2.2.2.1 (by decide) rfl rfl ?_
          refine xr_iload (n := 107) (j := 1) C dd_X9_bestLayout_3.2.2.2.2.2.2.2.2.1 rfl rfl ?_
          refine xr_istore_n (n := 108) C [(2, .int ((100 * x_49) + (x_53 * x_57))), (1, .ref q_62), (6, .int ((100 * x_49) + (x_53 * x_57))), (0, .ref g), (3, .int x_2), (4, .int s_6.2.1), (5, .int s_39.2.1)] dd_X9_bestLayout_3.2.2.2.2.2.2.2.2.2.1 (by decide) rfl rfl ?_
          refine xr_iinc (j := 6) (v := s_39.2.1 + 1) (n := 111) C [(5, .int (s_39.2.1 + 1)), (2, .int ((100 * x_49) + (x_53 * x_57))), (1, .ref q_62), (6, .int ((100 * x_49) + (x_53 * x_57))), (0, .ref g), (3, .int x_2), (4, .int s_6.2.1)] dd_X9_bestLayout_3.2.2.2.2.2.2.2.2.2.2.1 rfl rfl (by decide) rfl rfl ?_
          refine xr_goto (tgt := 27) C dd_X9_bestLayout_3.2.2.2.2.2.2.2.2.2.2.2.1 rfl ?_
          refine xr_lv (lv' := [(0, .ref g), (1, .ref q_62), (2, .int ((100 * x_49) + (x_53 * x_57))), (3, .int x_2), (4, .int s_6.2.1), (5, .int (s_39.2.1 + 1))]) [4, 2, 1, 5, 6, 0] rfl ?_
          refine xr_perm C 10 [0, 1, 2, 3, 4, 5, 6, 7, 9] [8] [[(g, .inr (11, [.int gth, .ref gw, .ref gB, .ref gK, .ref gU, .ref gS, .int gbe, .int gwo, .long gta, .null, .int glr, .int glc, .int gti, .int ggo, .ref gR, .int gch, .ref gD]))], [(gw, .inr (10, [.int gwr, .int gwk, .int gwc, .int gwg, .int gws, .ref gwa, .ref gwb]))], [(gwa, .inl (cy 3, gwan, .inr (.inr (.inr (.inr (yad gwad))))))], xg_rows gwad gwan (cy 1) gwak gwaG, [(gwb, .inl (cy 3, gwbn, .inr (.inr (.inr (.inr (yad gwbd))))))], xg_rows gwbd gwbn (cy 1) gwbk gwbG, [(gK, .inl (cy 4, 5, .inr (.inr (.inr (.inr (yad gKd))))))], xg_rows gKd 5 (cy 2) 5 gKG, [(q_62, .inl (cy 1, 2, .inl (upd (upd (fun _ => 0) (0 : Int32).toNatClampNeg s_6.2.1) (1 : Int32).toNatClampNeg s_39.2.1)))]] rfl (by decide +kernel) rfl ?_
          exact hk_39 ((100 * x_49) + (x_53 * x_57), s_39.2.1 + 1, upd (upd (fun _ => 0) (0 : Int32).toNatClampNeg s_6.2.1) (1 : Int32).toNatClampNeg s_39.2.1, 2, s_39.2.2.2.2.1 + 1, s_39.2.2.2.2.2 + 2) (Option.some.inj ho_39).symm q_62
        · replace ho_39 := yf_f c_61 ho_39
          refine xr_iload (n := 84) (j := 0) C dd_X9_bestLayout_2.2.2.2.2.2.2.2.2.2.2.1 rfl rfl ?_
          refine xr_iload_n (n := 85) (j := 3) C dd_X9_bestLayout_2.2.2.2.2.2.2.2.2.2.2.2.1 rfl rfl ?_
          refine xr_icmp_lt (tgt := 91) (n := 88) C dd_X9_bestLayout_2.2.2.2.2.2.2.2.2.2.2.2.2.1 rfl rfl (fun c_66 => ?_) (fun c_66 => ?_)
          · replace ho_39 := yf_t c_66 ho_39
            refine xr_iconst (n := 92) (v := 2) C dd_X9_bestLayout_2.2.2.2.2.2.2.2.2.2.2.2.2.2.2.1 rfl rfl ?_
            obtain ⟨g_68, ho_39⟩ := yf_g ho_39
            refine xr_newa (n := 94) C u_108 (by decide) (N' := 2) (by decide) (by decide) g_68.1 g_68.2 dX9_bestLayout_92 rfl (fun q_67 => ?_)
            refine xr_eq (bs' := [[(g, .inr (11, [.int gth, .ref gw, .ref gB, .ref gK, .ref gU, .ref gS, .int gbe, .int gwo, .long gta, .null, .int glr, .int glc, .int gti, .int ggo, .ref gR, .int gch, .ref gD]))], [(gw, .inr (10, [.int gwr, .int gwk, .int gwc, .int gwg, .int gws, .ref gwa, .ref gwb]))], [(gwa, .inl (cy 3, gwan, .inr (.inr (.inr (.inr (yad gwad))))))], xg_rows gwad gwan (cy 1) gwak gwaG, [(gwb, .inl (cy 3, gwbn, .inr (.inr (.inr (.inr (yad gwbd))))))], xg_rows gwbd gwbn (cy 1) gwbk gwbG, [(gK, .inl (cy 4, 5, .inr (.inr (.inr (.inr (yad gKd))))))], xg_rows gKd 5 (cy 2) 5 gKG, [(a0_39, .inl (cy 1, s_39.2.2.2.1, .inl s_39.2.2.1))], [(q_67, .inl (cy 1, 2, .inl (fun _ => 0)))]]) rfl ?_
            refine xr_dup (n := 95) C dd_X9_bestLayout_2.2.2.2.2.2.2.2.2.2.2.2.2.2.2.2.1 rfl rfl ?_
            refine xr_iconst (n := 96) (v := 0) C dd_X9_bestLayout_3.1 rfl rfl ?_
            refine xr_iload (n := 98) (j := 5) C dd_X9_bestLayout_3.2.1 rfl rfl ?_
            obtain ⟨g_69, ho_39⟩ := yf_g ho_39
            refine xr_iast (n := 99) C 9 0 rfl rfl g_69 [[(g, .inr (11, [.int gth, .ref gw, .ref gB, .ref gK, .ref gU, .ref gS, .int gbe, .int gwo, .long gta, .null, .int glr, .int glc, .int gti, .int ggo, .ref gR, .int gch, .ref gD]))], [(gw, .inr (10, [.int gwr, .int gwk, .int gwc, .int gwg, .int gws, .ref gwa, .ref gwb]))], [(gwa, .inl (cy 3, gwan, .inr (.inr (.inr (.inr (yad gwad))))))], xg_rows gwad gwan (cy 1) gwak gwaG, [(gwb, .inl (cy 3, gwbn, .inr (.inr (.inr (.inr (yad gwbd))))))], xg_rows gwbd gwbn (cy 1) gwbk gwbG, [(gK, .inl (cy 4, 5, .inr (.inr (.inr (.inr (yad gKd))))))], xg_rows gKd 5 (cy 2) 5 gKG, [(a0_39, .inl (cy 1, s_39.2.2.2.1, .inl s_39.2.2.1))], [(q_67, .inl (cy 1, 2, .inl (upd (fun _ => 0) (0 : Int32).toNatClampNeg s_6.2.1)))]] rfl dd_X9_bestLayout_3.2.2.1 rfl ?_
            refine xr_dup (n := 100) C dd_X9_bestLayout_3.2.2.2.1 rfl rfl ?_
            refine xr_iconst (n := 101) (v := 1) C dd_X9_bestLayout_3.2.2.2.2.1 rfl rfl ?_
            refine xr_iload (n := 103) (j := 6) C dd_X9_bestLayout_3.2.2.2.2.2.1 rfl rfl ?_
            obtain ⟨g_70, ho_39⟩ := yf_g ho_39
            refine xr_iast (n := 104) C 9 0 rfl rfl g_70 [[(g, .inr (11, [.int gth, .ref gw, .ref gB, .ref gK, .ref gU, .ref gS, .int gbe, .int gwo, .long gta, .null, .int glr, .int glc, .int gti, .int ggo, .ref gR, .int gch, .ref gD]))], [(gw, .inr (10, [.int gwr, .int gwk, .int gwc, .int gwg, .int gws, .ref gwa, .ref gwb]))], [(gwa, .inl (cy 3, gwan, .inr (.inr (.inr (.inr (yad gwad))))))], xg_rows gwad gwan (cy 1) gwak gwaG, [(gwb, .inl (cy 3, gwbn, .inr (.inr (.inr (.inr (yad gwbd))))))], xg_rows gwbd gwbn (cy 1) gwbk gwbG, [(gK, .inl (cy 4, 5, .inr (.inr (.inr (.inr (yad gKd))))))], xg_rows gKd 5 (cy 2) 5 gKG, [(a0_39, .inl (cy 1, s_39.2.2.2.1, .inl s_39.2.2.1))], [(q_67, .inl (cy 1, 2, .inl (upd (upd (fun _ => 0) (0 : Int32).toNatClampNeg s_6.2.1) (1 : Int32).toNatClampNeg s_39.2.1)))]] rfl dd_X9_bestLayout_3.2.2.2.2.2.2.1 rfl ?_
            refine xr_astore_n (n := 105) C [(1, .ref q_67), (6, .int ((100 * x_49) + (x_53 * x_57))), (0, .ref g), (2, .int s_39.1), (3, .int x_2), (4, .int s_6.2.1), (5, .int s_39.2.1)] dd_X9_bestLayout_3.2.2.2.2.2.2.2.1 (by decide) rfl rfl ?_
            refine xr_iload (n := 107) (j := 1) C dd_X9_bestLayout_3.2.2.2.2.2.2.2.2.1 rfl rfl ?_
            refine xr_istore_n (n := 108) C [(2, .int ((100 * x_49) + (x_53 * x_57))), (1, .ref q_67), (6, .int ((100 * x_49) + (x_53 * x_57))), (0, .ref g), (3, .int x_2), (4, .int s_6.2.1), (5, .int s_39.2.1)] dd_X9_bestLayout_3.2.2.2.2.2.2.2.2.2.1 (by decide) rfl rfl ?_
            refine xr_iinc (j := 6) (v := s_39.2.1 + 1) (n := 111) C [(5, .int (s_39.2.1 + 1)), (2, .int ((100 * x_49) + (x_53 * x_57))), (1, .ref q_67), (6, .int ((100 * x_49) + (x_53 * x_57))), (0, .ref g), (3, .int x_2), (4, .int s_6.2.1)] dd_X9_bestLayout_3.2.2.2.2.2.2.2.2.2.2.1 rfl rfl (by decide) rfl rfl ?_
            refine xr_goto (tgt := 27) C dd_X9_bestLayout_3.2.2.2.2.2.2.2.2.2.2.2.1 rfl ?_
            refine xr_lv (lv' := [(0, .ref g), (1, .ref q_67), (2, .int ((100 * x_49) + (x_53 * x_57))), (3, .int x_2), (4, .int s_6.2.1), (5, .int (s_39.2.1 + 1))]) [4, 2, 1, 5, 6, 0] rfl ?_
            refine xr_perm C 10 [0, 1, 2, 3, 4, 5, 6, 7, 9] [8] [[(g, .inr (11, [.int gth, .ref gw, .ref gB, .ref gK, .ref gU, .ref gS, .int gbe, .int gwo, .long gta, .null, .int glr, .int glc, .int gti, .int ggo, .ref gR, .int gch, .ref gD]))], [(gw, .inr (10, [.int gwr, .int gwk, .int gwc, .int gwg, .int gws, .ref gwa, .ref gwb]))], [(gwa, .inl (cy 3, gwan, .inr (.inr (.inr (.inr (yad gwad))))))], xg_rows gwad gwan (cy 1) gwak gwaG, [(gwb, .inl (cy 3, gwbn, .inr (.inr (.inr (.inr (yad gwbd))))))], xg_rows gwbd gwbn (cy 1) gwbk gwbG, [(gK, .inl (cy 4, 5, .inr (.inr (.inr (.inr (yad gKd))))))], xg_rows gKd 5 (cy 2) 5 gKG, [(q_67, .inl (cy 1, 2, .inl (upd (upd (fun _ => 0) (0 : Int32).toNatClampNeg s_6.2.1) (1 : Int32).toNatClampNeg s_39.2.1)))]] rfl (by decide +kernel) rfl ?_
            exact hk_39 ((100 * x_49) + (x_53 * x_57), s_39.2.1 + 1, upd (upd (fun _ => 0) (0 : Int32).toNatClampNeg s_6.2.1) (1 : Int32).toNatClampNeg s_39.2.1, 2, s_39.2.2.2.2.1 + 1, s_39.2.2.2.2.2 + 2) (Option.some.inj ho_39).symm q_67
          · replace ho_39 := yf_f c_66 ho_39
            refine xr_goto (tgt := 108) C dd_X9_bestLayout_2.2.2.2.2.2.2.2.2.2.2.2.2.2.1 rfl ?_
            refine xr_iinc (j := 6) (v := s_39.2.1 + 1) (n := 111) C [(5, .int (s_39.2.1 + 1)), (6, .int ((100 * x_49) + (x_53 * x_57))), (0, .ref g), (1, .ref a0_39), (2, .int s_39.1), (3, .int x_2), (4, .int s_6.2.1)] dd_X9_bestLayout_3.2.2.2.2.2.2.2.2.2.2.1 rfl rfl (by decide) rfl rfl ?_
            refine xr_goto (tgt := 27) C dd_X9_bestLayout_3.2.2.2.2.2.2.2.2.2.2.2.1 rfl ?_
            refine xr_lv (lv' := [(0, .ref g), (1, .ref a0_39), (2, .int s_39.1), (3, .int x_2), (4, .int s_6.2.1), (5, .int (s_39.2.1 + 1))]) [2, 3, 4, 5, 6, 0] rfl ?_
            exact hk_39 (s_39.1, s_39.2.1 + 1, s_39.2.2.1, s_39.2.2.2.1, s_39.2.2.2.2.1, s_39.2.2.2.2.2) (Option.some.inj ho_39).symm a0_39
      · replace ho_39 := yf_f c_48 ho_39
        refine xr_goto (tgt := 108) C dd_X9_bestLayout_1.2.2.2.2.2.2.2.1 rfl ?_
        refine xr_iinc (j := 5) (v := s_39.2.1 + 1) (n := 111) C [(5, .int (s_39.2.1 + 1)), (0, .ref g), (1, .ref a0_39), (2, .int s_39.1), (3, .int x_2), (4, .int s_6.2.1)] dd_X9_bestLayout_3.2.2.2.2.2.2.2.2.2.2.1 rfl rfl (by decide) rfl rfl ?_
        refine xr_goto (tgt := 27) C dd_X9_bestLayout_3.2.2.2.2.2.2.2.2.2.2.2.1 rfl ?_
        refine xr_lv (lv' := [(0, .ref g), (1, .ref a0_39), (2, .int s_39.1), (3, .int x_2), (4, .int s_6.2.1), (5, .int (s_39.2.1 + 1))]) [1, 2, 3, 4, 5, 0] rfl ?_
        exact hk_39 (s_39.1, s_39.2.1 + 1, s_39.2.2.1, s_39.2.2.2.1, s_39.2.2.2.2.1, s_39.2.2.2.2.2) (Option.some.inj ho_39).symm a0_39
def fX9_bestLayout_r (gwr : Int32) (gwk : Int32) (gwc : Int32) (gwg : Int32) (gws : Int32) (gwan : Nat) (gwak : Nat) (gwaG : Nat → Nat → Int32) (gwbn : Nat) (gwbk : Nat) (gwbG : Nat → Nat → Int32) (gKG : Nat → Nat → Int32) : Option ((Nat → Int32) × Nat) := ((fX8_steps gwk gwg gwan gwak gwaG gwbn gwbk gwbG).bind fun x_2 => ((wl (S := Int32 × Int32 × (Nat → Int32) × Nat × Nat × Nat) (B := Int32 × Int32 × (Nat → Int32) × Nat × Nat × Nat) (fun s_6 => (if s_6.2.2.2.2.1 ≤ 30 ∧ s_6.2.2.2.2.2 ≤ 60 then (if 32 ≤ s_6.2.1 then some (.inr (s_6.1, s_6.2.1, s_6.2.2.1, s_6.2.2.2.1, s_6.2.2.2.2.1, s_6.2.2.2.2.2)) else ((wl (S := Int32 × Int32 × (Nat → Int32) × Nat × Nat × Nat) (B := Int32 × Int32 × (Nat → Int32) × Nat × Nat × Nat) (fun s_39 => (if s_39.2.2.2.2.1 ≤ 30 ∧ s_39.2.2.2.2.2 ≤ 60 then (if 32 ≤ s_39.2.1 then some (.inr (s_39.1, s_39.2.1, s_39.2.2.1, s_39.2.2.2.1, s_39.2.2.2.2.1, s_39.2.2.2.2.2)) else ((fX9_crosses_r gKG s_6.2.1 s_39.2.1).bind fun x_44 => (if x_44 = 0 then ((fX9_beatsOf gwr gwc gws s_6.2.1 s_39.2.1 x_2).bind fun x_49 => ((fJ6_bitCount_0f7a4 s_6.2.1).bind fun x_53 => ((fJ6_bitCount_0f7a4 s_39.2.1).bind fun x_57 => (if (nI s_39.2.2.2.1) ≤ 0 then (if s_39.2.2.2.2.1 + 1 ≤ 30 ∧ s_39.2.2.2.2.2 + 2 ≤ 60 then (if ¬ ((0 : Int32) < 0 ∨ 2 ≤ (0 : Int32).toNatClampNeg) then (if ¬ ((1 : Int32) < 0 ∨ 2 ≤ (1 : Int32).toNatClampNeg) then some (.inl ((100 * x_49) + (x_53 * x_57), s_39.2.1 + 1, upd (upd (fun _ => 0) (0 : Int32).toNatClampNeg s_6.2.1) (1 : Int32).toNatClampNeg s_39.2.1, 2, s_39.2.2.2.2.1 + 1, s_39.2.2.2.2.2 + 2)) else none) else none) else none) else (if ((100 * x_49) + (x_53 * x_57)) < s_39.1 then (if s_39.2.2.2.2.1 + 1 ≤ 30 ∧ s_39.2.2.2.2.2 + 2 ≤ 60 then (if ¬ ((0 : Int32) < 0 ∨ 2 ≤ (0 : Int32).toNatClampNeg) then (if ¬ ((1 : Int32) < 0 ∨ 2 ≤ (1 : Int32).toNatClampNeg) then some (.inl ((100 * x_49) + (x_53 * x_57), s_39.2.1 + 1, upd (upd (fun _ => 0) (0 : Int32).toNatClampNeg s_6.2.1) (1 : Int32).toNatClampNeg s_39.2.1, 2, s_39.2.2.2.2.1 + 1, s_39.2.2.2.2.2 + 2)) else none) else none) else none) else some (.inl (s_39.1, s_39.2.1 + 1, s_39.2.2.1, s_39.2.2.2.1, s_39.2.2.2.2.1, s_39.2.2.2.2.2))))))) else some (.inl (s_39.1, s_39.2.1 + 1, s_39.2.2.1, s_39.2.2.2.1, s_39.2.2.2.2.1, s_39.2.2.2.2.2))))) else none)) yFuel (s_6.1, 1, s_6.2.2.1, s_6.2.2.2.1, s_6.2.2.2.2.1, s_6.2.2.2.2.2)).bind fun b_39 => (if b_39.2.2.2.2.1 ≤ 30 ∧ b_39.2.2.2.2.2 ≤ 60 then some (.inl (b_39.1, s_6.2.1 + 1, b_39.2.2.1, b_39.2.2.2.1, b_39.2.2.2.2.1, b_39.2.2.2.2.2)) else none))) else none)) yFuel (0, 1, fun _ => 0, 0, 0 + 1, 0 + 0)).bind fun b_6 => (if b_6.2.2.2.2.1 ≤ 30 ∧ b_6.2.2.2.2.2 ≤ 60 then some (b_6.2.2.1, b_6.2.2.2.1) else none)))
set_option maxHeartbeats 4000000 in
set_option maxRecDepth 100000 in
theorem kX9_bestLayout_r (l : Launch) (D : va_G) (cy : Nat → ClassId) (g : Nat) (gth : Int32) (gw : Nat) (gB : Nat) (gK : Nat) (gU : Nat) (gS : Nat) (gbe : Int32) (gwo : Int32) (gta : Int64) (gn : Nat) (glr : Int32) (glc : Int32) (gti : Int32) (ggo : Int32) (gR : Nat) (gch : Int32) (gD : Nat) (gwr : Int32) (gwk : Int32) (gwc : Int32) (gwg : Int32) (gws : Int32) (gwa : Nat) (gwb : Nat) (gwad : Nat → Nat) (gwan : Nat) (gwak : Nat) (gwaG : Nat → Nat → Int32) (gwbd : Nat → Nat) (gwbn : Nat) (gwbk : Nat) (gwbG : Nat → Nat → Int32) (gKd : Nat → Nat) (gKG : Nat → Nat → Int32) {res : (Nat → Int32) × Nat} (hR : fX9_bestLayout_r gwr gwk gwc gwg gws gwan gwak gwaG gwbn gwbk gwbG gKG = some res) : YM l D cy yX9_bestLayout hX9_bestLayout 4 30 60 [.ref g] [[(g, .inr (11, [.int gth, .ref gw, .ref gB, .ref gK, .ref gU, .ref gS, .int gbe, .int gwo, .long gta, .ref gn, .int glr, .int glc, .int gti, .int ggo, .ref gR, .int gch, .ref gD]))], [(gw, .inr (10, [.int gwr, .int gwk, .int gwc, .int gwg, .int gws, .ref gwa, .ref gwb]))], [(gwa, .inl (cy 3, gwan, .inr (.inr (.inr (.inr (yad gwad))))))], xg_rows gwad gwan (cy 1) gwak gwaG, [(gwb, .inl (cy 3, gwbn, .inr (.inr (.inr (.inr (yad gwbd))))))], xg_rows gwbd gwbn (cy 1) gwbk gwbG, [(gK, .inl (cy 4, 5, .inr (.inr (.inr (.inr (yad gKd))))))], xg_rows gKd 5 (cy 2) 5 gKG] (fun v u => ∃ bq : Nat, v = some (.ref bq) ∧ u = [[(g, .inr (11, [.int gth, .ref gw, .ref gB, .ref gK, .ref gU, .ref gS, .int gbe, .int gwo, .long gta, .ref gn, .int glr, .int glc, .int gti, .int ggo, .ref gR, .int gch, .ref gD]))], [(gw, .inr (10, [.int gwr, .int gwk, .int gwc, .int gwg, .int gws, .ref gwa, .ref gwb]))], [(gwa, .inl (cy 3, gwan, .inr (.inr (.inr (.inr (yad gwad))))))], xg_rows gwad gwan (cy 1) gwak gwaG, [(gwb, .inl (cy 3, gwbn, .inr (.inr (.inr (.inr (yad gwbd))))))], xg_rows gwbd gwbn (cy 1) gwbk gwbG, [(gK, .inl (cy 4, 5, .inr (.inr (.inr (.inr (yad gKd))))))], xg_rows gKd 5 (cy 2) 5 gKG, [(bq, .inl (cy 1, res.2, .inl res.1))]]) := by
  unfold fX9_bestLayout_r at hR
  refine YM.ofA (cc := cX9_bestLayout) (maxL := 7) (ret := (some (.array .int))) (by decide +kernel) rfl (Nat.le_of_ble_eq_true rfl) [(0, .ref g)] rfl (.array .int) rfl (Or.inr ⟨_, rfl⟩) (fun p e s m args below meth c A H0 Q C hnm ret => ?_)
  refine xr_iconst (n := 1) (v := 0) C dd_X9_bestLayout_0.1 rfl rfl ?_
  refine xr_newa (n := 3) C u_108 (by decide) (N' := 0) (by decide) (by decide) (Nat.le_of_ble_eq_true rfl) (Nat.le_of_ble_eq_true rfl) dX9_bestLayout_1 rfl (fun q_1 => ?_)
  refine xr_eq (bs' := [[(g, .inr (11, [.int gth, .ref gw, .ref gB, .ref gK, .ref gU, .ref gS, .int gbe, .int gwo, .long gta, .ref gn, .int glr, .int glc, .int gti, .int ggo, .ref gR, .int gch, .ref gD]))], [(gw, .inr (10, [.int gwr, .int gwk, .int gwc, .int gwg, .int gws, .ref gwa, .ref gwb]))], [(gwa, .inl (cy 3, gwan, .inr (.inr (.inr (.inr (yad gwad))))))], xg_rows gwad gwan (cy 1) gwak gwaG, [(gwb, .inl (cy 3, gwbn, .inr (.inr (.inr (.inr (yad gwbd))))))], xg_rows gwbd gwbn (cy 1) gwbk gwbG, [(gK, .inl (cy 4, 5, .inr (.inr (.inr (.inr (yad gKd))))))], xg_rows gKd 5 (cy 2) 5 gKG, [(q_1, .inl (cy 1, 0, .inl (fun _ => 0)))]]) rfl ?_
  refine xr_astore_n (n := 4) C [(1, .ref q_1), (0, .ref g)] dd_X9_bestLayout_0.2.1 (by decide) rfl rfl ?_
  refine xr_iconst (n := 5) (v := 0) C dd_X9_bestLayout_0.2.2.1 rfl rfl ?_
  refine xr_istore_n (n := 6) C [(2, .int 0), (1, .ref q_1), (0, .ref g)] dd_X9_bestLayout_0.2.2.2.1 (by decide) rfl rfl ?_
  refine xr_aload_n (n := 7) (j := 2) C dd_X9_bestLayout_0.2.2.2.2.1 rfl rfl ?_
  refine xr_get (n := 10) C 0 rfl rfl 1 (by decide) in_X9 u_1238 rfl (v := .ref gw) rfl dd_X9_bestLayout_0.2.2.2.2.2.1 rfl ?_
  obtain ⟨x_2, hx_2, hR⟩ := yf_b hR
  refine xr_callVp (n := 13) (As := []) (rest := []) C (kX8_steps l D cy (w := gw) (wr := gwr) (wk := gwk) (wc := gwc) (wg := gwg) (ws := gws) (wa := gwa) (wb := gwb) (wad := gwad) (wan := gwan) (wak := gwak) (waG := gwaG) (wbd := gwbd) (wbn := gwbn) (wbk := gwbk) (wbG := gwbG) hx_2) mX8_steps u_1359 u_1360 u_1361 1 rfl rfl 9 [1, 2, 3, 4, 5] [0, 6, 7, 8] rfl (by decide +kernel) rfl rfl rfl rfl (Nat.le_of_ble_eq_true rfl) (Nat.le_of_ble_eq_true rfl) (Nat.le_of_ble_eq_true rfl) (Nat.le_of_ble_eq_true rfl) (Nat.le_of_ble_eq_true rfl) dd_X9_bestLayout_0.2.2.2.2.2.2.1 rfl (fun _ _ hp => hp.2) (fun v_3 hp_5 => ?_)
  obtain ⟨rfl, -⟩ := hp_5
  refine xr_st (st' := [.int x_2]) rfl ?_
  refine xr_istore_n (n := 14) C [(3, .int x_2), (2, .int 0), (1, .ref q_1), (0, .ref g)] dd_X9_bestLayout_0.2.2.2.2.2.2.2.1 (by decide) rfl rfl ?_
  refine xr_iconst (n := 15) (v := 1) C dd_X9_bestLayout_0.2.2.2.2.2.2.2.2.1 rfl rfl ?_
  refine xr_istore (n := 17) C [(4, .int 1), (3, .int x_2), (2, .int 0), (1, .ref q_1), (0, .ref g)] dd_X9_bestLayout_0.2.2.2.2.2.2.2.2.2.1 (by decide) rfl rfl ?_
  refine xr_lv (lv' := [(0, .ref g), (1, .ref q_1), (2, .int 0), (3, .int x_2), (4, .int 1)]) [4, 3, 2, 1, 0] rfl ?_
  obtain ⟨b_6, hb_6, hR⟩ := yf_b hR
  have K_6 : ∀ a0_6 : Nat, X p l e (yR 4 30 60) s m args below meth c D A H0 7 Q [[(g, .inr (11, [.int gth, .ref gw, .ref gB, .ref gK, .ref gU, .ref gS, .int gbe, .int gwo, .long gta, .ref gn, .int glr, .int glc, .int gti, .int ggo, .ref gR, .int gch, .ref gD]))], [(gw, .inr (10, [.int gwr, .int gwk, .int gwc, .int gwg, .int gws, .ref gwa, .ref gwb]))], [(gwa, .inl (cy 3, gwan, .inr (.inr (.inr (.inr (yad gwad))))))], xg_rows gwad gwan (cy 1) gwak gwaG, [(gwb, .inl (cy 3, gwbn, .inr (.inr (.inr (.inr (yad gwbd))))))], xg_rows gwbd gwbn (cy 1) gwbk gwbG, [(gK, .inl (cy 4, 5, .inr (.inr (.inr (.inr (yad gKd))))))], xg_rows gKd 5 (cy 2) 5 gKG, [(a0_6, .inl (cy 1, b_6.2.2.2.1, .inl b_6.2.2.1))]] b_6.2.2.2.2.1 b_6.2.2.2.2.2 [(1, .ref a0_6)] 120 [] := by
    intro a0_6
    obtain ⟨g_7, hR⟩ := yf_g hR
    refine xr_aload_n (n := 121) (j := 0) C dd_X9_bestLayout_3.2.2.2.2.2.2.2.2.2.2.2.2.2.2.1 rfl rfl ?_
    obtain rfl := Option.some.inj hR
    exact ret a0_6 ⟨a0_6, rfl, rfl⟩ g_7.1 g_7.2 dd_X9_bestLayout_3.2.2.2.2.2.2.2.2.2.2.2.2.2.2.2.1
  refine y_loop (P := fun (s_6 : Int32 × Int32 × (Nat → Int32) × Nat × Nat × Nat) => ∀ a0_6 : Nat, X p l e (yR 4 30 60) s m args below meth c D A H0 7 Q [[(g, .inr (11, [.int gth, .ref gw, .ref gB, .ref gK, .ref gU, .ref gS, .int gbe, .int gwo, .long gta, .ref gn, .int glr, .int glc, .int gti, .int ggo, .ref gR, .int gch, .ref gD]))], [(gw, .inr (10, [.int gwr, .int gwk, .int gwc, .int gwg, .int gws, .ref gwa, .ref gwb]))], [(gwa, .inl (cy 3, gwan, .inr (.inr (.inr (.inr (yad gwad))))))], xg_rows gwad gwan (cy 1) gwak gwaG, [(gwb, .inl (cy 3, gwbn, .inr (.inr (.inr (.inr (yad gwbd))))))], xg_rows gwbd gwbn (cy 1) gwbk gwbG, [(gK, .inl (cy 4, 5, .inr (.inr (.inr (.inr (yad gKd))))))], xg_rows gKd 5 (cy 2) 5 gKG, [(a0_6, .inl (cy 1, s_6.2.2.2.1, .inl s_6.2.2.1))]] s_6.2.2.2.2.1 s_6.2.2.2.2.2 [(0, .ref g), (1, .ref a0_6), (2, .int s_6.1), (3, .int x_2), (4, .int s_6.2.1)] 17 []) ?_ _ (0, 1, fun _ => 0, 0, 0 + 1, 0 + 0) hb_6 q_1
  intro s_6 o_6 ho_6 hk_6 hx_6 a0_6
  obtain ⟨g_8, ho_6⟩ := yf_g ho_6
  refine xr_iload (n := 19) (j := 4) C dd_X9_bestLayout_0.2.2.2.2.2.2.2.2.2.2.1 rfl rfl ?_
  refine xr_bipush (n := 21) (v := 32) C dd_X9_bestLayout_0.2.2.2.2.2.2.2.2.2.2.2.1 rfl rfl ?_
  refine xr_icmp_ge (tgt := 120) (n := 24) C dd_X9_bestLayout_0.2.2.2.2.2.2.2.2.2.2.2.2.1 rfl rfl (fun c_9 => ?_) (fun c_9 => ?_)
  · replace ho_6 := yf_t c_9 ho_6
    refine xr_lv (lv' := [(1, .ref a0_6)]) [1] rfl ?_
    have e_10 := hx_6 _ (Option.some.inj ho_6).symm
    subst e_10
    exact K_6 a0_6
  · replace ho_6 := yf_f c_9 ho_6
    refine xr_iconst (n := 25) (v := 1) C dd_X9_bestLayout_0.2.2.2.2.2.2.2.2.2.2.2.2.2.1 rfl rfl ?_
    refine xr_istore (n := 27) C [(5, .int 1), (0, .ref g), (1, .ref a0_6), (2, .int s_6.1), (3, .int x_2), (4, .int s_6.2.1)] dd_X9_bestLayout_0.2.2.2.2.2.2.2.2.2.2.2.2.2.2.1 (by decide) rfl rfl ?_
    refine xr_lv (lv' := [(0, .ref g), (1, .ref a0_6), (2, .int s_6.1), (3, .int x_2), (4, .int s_6.2.1), (5, .int 1)]) [1, 2, 3, 4, 5, 0] rfl ?_
    obtain ⟨b_39, hb_39, ho_6⟩ := yf_b ho_6
    have K_39 : ∀ a0_39 : Nat, X p l e (yR 4 30 60) s m args below meth c D A H0 7 Q [[(g, .inr (11, [.int gth, .ref gw, .ref gB, .ref gK, .ref gU, .ref gS, .int gbe, .int gwo, .long gta, .ref gn, .int glr, .int glc, .int gti, .int ggo, .ref gR, .int gch, .ref gD]))], [(gw, .inr (10, [.int gwr, .int gwk, .int gwc, .int gwg, .int gws, .ref gwa, .ref gwb]))], [(gwa, .inl (cy 3, gwan, .inr (.inr (.inr (.inr (yad gwad))))))], xg_rows gwad gwan (cy 1) gwak gwaG, [(gwb, .inl (cy 3, gwbn, .inr (.inr (.inr (.inr (yad gwbd))))))], xg_rows gwbd gwbn (cy 1) gwbk gwbG, [(gK, .inl (cy 4, 5, .inr (.inr (.inr (.inr (yad gKd))))))], xg_rows gKd 5 (cy 2) 5 gKG, [(a0_39, .inl (cy 1, b_39.2.2.2.1, .inl b_39.2.2.1))]] b_39.2.2.2.2.1 b_39.2.2.2.2.2 [(0, .ref g), (1, .ref a0_39), (2, .int b_39.1), (3, .int x_2), (4, .int s_6.2.1)] 114 [] := by
      intro a0_39
      obtain ⟨g_40, ho_6⟩ := yf_g ho_6
      refine xr_iinc (j := 4) (v := s_6.2.1 + 1) (n := 117) C [(4, .int (s_6.2.1 + 1)), (0, .ref g), (1, .ref a0_39), (2, .int b_39.1), (3, .int x_2)] dd_X9_bestLayout_3.2.2.2.2.2.2.2.2.2.2.2.2.1 rfl rfl (by decide) rfl rfl ?_
      refine xr_goto (tgt := 17) C dd_X9_bestLayout_3.2.2.2.2.2.2.2.2.2.2.2.2.2.1 rfl ?_
      refine xr_lv (lv' := [(0, .ref g), (1, .ref a0_39), (2, .int b_39.1), (3, .int x_2), (4, .int (s_6.2.1 + 1))]) [1, 2, 3, 4, 0] rfl ?_
      exact hk_6 (b_39.1, s_6.2.1 + 1, b_39.2.2.1, b_39.2.2.2.1, b_39.2.2.2.2.1, b_39.2.2.2.2.2) (Option.some.inj ho_6).symm a0_39
    refine y_loop (P := fun (s_39 : Int32 × Int32 × (Nat → Int32) × Nat × Nat × Nat) => ∀ a0_39 : Nat, X p l e (yR 4 30 60) s m args below meth c D A H0 7 Q [[(g, .inr (11, [.int gth, .ref gw, .ref gB, .ref gK, .ref gU, .ref gS, .int gbe, .int gwo, .long gta, .ref gn, .int glr, .int glc, .int gti, .int ggo, .ref gR, .int gch, .ref gD]))], [(gw, .inr (10, [.int gwr, .int gwk, .int gwc, .int gwg, .int gws, .ref gwa, .ref gwb]))], [(gwa, .inl (cy 3, gwan, .inr (.inr (.inr (.inr (yad gwad))))))], xg_rows gwad gwan (cy 1) gwak gwaG, [(gwb, .inl (cy 3, gwbn, .inr (.inr (.inr (.inr (yad gwbd))))))], xg_rows gwbd gwbn (cy 1) gwbk gwbG, [(gK, .inl (cy 4, 5, .inr (.inr (.inr (.inr (yad gKd))))))], xg_rows gKd 5 (cy 2) 5 gKG, [(a0_39, .inl (cy 1, s_39.2.2.2.1, .inl s_39.2.2.1))]] s_39.2.2.2.2.1 s_39.2.2.2.2.2 [(0, .ref g), (1, .ref a0_39), (2, .int s_39.1), (3, .int x_2), (4, .int s_6.2.1), (5, .int s_39.2.1)] 27 []) ?_ _ (s_6.1, 1, s_6.2.2.1, s_6.2.2.2.1, s_6.2.2.2.2.1, s_6.2.2.2.2.2) hb_39 a0_6
    intro s_39 o_39 ho_39 hk_39 hx_39 a0_39
    obtain ⟨g_41, ho_39⟩ := yf_g ho_39
    refine xr_iload (n := 29) (j := 5) C dd_X9_bestLayout_0.2.2.2.2.2.2.2.2.2.2.2.2.2.2.2.1 rfl rfl ?_
    refine xr_bipush (n := 31) (v := 32) C dd_X9_bestLayout_1.1 rfl rfl ?_
    refine xr_icmp_ge (tgt := 114) (n := 34) C dd_X9_bestLayout_1.2.1 rfl rfl (fun c_42 => ?_) (fun c_42 => ?_)
    · replace ho_39 := yf_t c_42 ho_39
      refine xr_lv (lv' := [(0, .ref g), (1, .ref a0_39), (2, .int s_39.1), (3, .int x_2), (4, .int s_6.2.1)]) [0, 1, 2, 3, 4] rfl ?_
      have e_43 := hx_39 _ (Option.some.inj ho_39).symm
      subst e_43
      exact K_39 a0_39
    · replace ho_39 := yf_f c_42 ho_39
      refine xr_aload_n (n := 35) (j := 0) C dd_X9_bestLayout_1.2.2.1 rfl rfl ?_
      refine xr_iload (n := 37) (j := 4) C dd_X9_bestLayout_1.2.2.2.1 rfl rfl ?_
      refine xr_iload (n := 39) (j := 5) C dd_X9_bestLayout_1.2.2.2.2.1 rfl rfl ?_
      obtain ⟨x_44, hx_44, ho_39⟩ := yf_b ho_39
      refine xr_callVp (n := 42) (As := [.int s_6.2.1, .int s_39.2.1]) (rest := []) C (kX9_crosses_r l D cy (g := g) (gth := gth) (gw := gw) (gB := gB) (gK := gK) (gU := gU) (gS := gS) (gbe := gbe) (gwo := gwo) (gta := gta) (gn := gn) (glr := glr) (glc := glc) (gti := gti) (ggo := ggo) (gR := gR) (gch := gch) (gD := gD) (gKd := gKd) (gKG := gKG) (i1 := s_6.2.1) (i2 := s_39.2.1) hx_44) mX9_crosses u_1373 u_1375 u_33 0 rfl rfl 9 [0, 6, 7] [1, 2, 3, 4, 5, 8] rfl (by decide +kernel) rfl rfl rfl rfl (Nat.le_of_ble_eq_true rfl) (Nat.le_of_ble_eq_true rfl) (Nat.le_of_ble_eq_true rfl) g_41.1 g_41.2 dd_X9_bestLayout_1.2.2.2.2.2.1 rfl (fun _ _ hp => hp.2) (fun v_45 hp_47 => ?_)
      obtain ⟨rfl, -⟩ := hp_47
      refine xr_st (st' := [.int x_44]) rfl ?_
      refine xr_if_eq (tgt := 48) (n := 45) C dd_X9_bestLayout_1.2.2.2.2.2.2.1 rfl rfl (fun c_48 => ?_) (fun c_48 => ?_)
      · replace ho_39 := yf_t c_48 ho_39
        refine xr_bipush (n := 50) (v := 100) C dd_X9_bestLayout_1.2.2.2.2.2.2.2.2.1 rfl rfl ?_
        refine xr_aload_n (n := 51) (j := 0) C dd_X9_bestLayout_1.2.2.2.2.2.2.2.2.2.1 rfl rfl ?_
        refine xr_get (n := 54) C 0 rfl rfl 1 (by decide) in_X9 u_1238 rfl (v := .ref gw) rfl dd_X9_bestLayout_1.2.2.2.2.2.2.2.2.2.2.1 rfl ?_
        refine xr_iload (n := 56) (j := 4) C dd_X9_bestLayout_1.2.2.2.2.2.2.2.2.2.2.2.1 rfl rfl ?_
        refine xr_iload (n := 58) (j := 5) C dd_X9_bestLayout_1.2.2.2.2.2.2.2.2.2.2.2.2.1 rfl rfl ?_
        refine xr_iload_n (n := 59) (j := 3) C dd_X9_bestLayout_1.2.2.2.2.2.2.2.2.2.2.2.2.2.1 rfl rfl ?_
        obtain ⟨x_49, hx_49, ho_39⟩ := yf_b ho_39
        refine xr_callSp (n := 62) (As := [.ref gw, .int s_6.2.1, .int s_39.2.1, .int x_2]) (rest := [.int 100]) C (kX9_beatsOf l D cy (w := gw) (wr := gwr) (wk := gwk) (wc := gwc) (wg := gwg) (ws := gws) (wa := gwa) (wb := gwb) (i1 := s_6.2.1) (i2 := s_39.2.1) (i3 := x_2) hx_49) mX9_beatsOf u_1380 u_1381 9 [1] [0, 2, 3, 4, 5, 6, 7, 8] rfl (by decide +kernel) rfl rfl rfl rfl (Nat.le_of_ble_eq_true rfl) (Nat.le_of_ble_eq_true rfl) (Nat.le_of_ble_eq_true rfl) g_41.1 g_41.2 dd_X9_bestLayout_1.2.2.2.2.2.2.2.2.2.2.2.2.2.2.1 rfl (fun _ _ hp => hp.2) (fun v_50 hp_52 => ?_)
        obtain ⟨rfl, -⟩ := hp_52
        refine xr_st (st' := [.int x_49, .int 100]) rfl ?_
        refine xr_imul (n := 63) C dd_X9_bestLayout_1.2.2.2.2.2.2.2.2.2.2.2.2.2.2.2.1 rfl ?_
        refine xr_iload (n := 65) (j := 4) C dd_X9_bestLayout_2.1 rfl rfl ?_
        obtain ⟨x_53, hx_53, ho_39⟩ := yf_b ho_39
        refine xr_callSp (n := 68) (As := [.int s_6.2.1]) (rest := [.int (100 * x_49)]) C (kJ6_bitCount_0f7a4 l D cy (i1 := s_6.2.1) hx_53) mJ6_bitCount_0f7a4 u_1383 u_349 9 [] [0, 1, 2, 3, 4, 5, 6, 7, 8] rfl (by decide +kernel) rfl rfl rfl rfl (Nat.le_of_ble_eq_true rfl) (Nat.le_of_ble_eq_true rfl) (Nat.le_of_ble_eq_true rfl) g_41.1 g_41.2 dd_X9_bestLayout_2.2.1 rfl (fun _ _ hp => hp.2) (fun v_54 hp_56 => ?_)
        obtain ⟨rfl, -⟩ := hp_56
        refine xr_st (st' := [.int x_53, .int (100 * x_49)]) rfl ?_
        refine xr_iload (n := 70) (j := 5) C dd_X9_bestLayout_2.2.2.1 rfl rfl ?_
        obtain ⟨x_57, hx_57, ho_39⟩ := yf_b ho_39
        refine xr_callSp (n := 73) (As := [.int s_39.2.1]) (rest := [.int x_53, .int (100 * x_49)]) C (kJ6_bitCount_0f7a4 l D cy (i1 := s_39.2.1) hx_57) mJ6_bitCount_0f7a4 u_1383 u_349 9 [] [0, 1, 2, 3, 4, 5, 6, 7, 8] rfl (by decide +kernel) rfl rfl rfl rfl (Nat.le_of_ble_eq_true rfl) (Nat.le_of_ble_eq_true rfl) (Nat.le_of_ble_eq_true rfl) g_41.1 g_41.2 dd_X9_bestLayout_2.2.2.2.1 rfl (fun _ _ hp => hp.2) (fun v_58 hp_60 => ?_)
        obtain ⟨rfl, -⟩ := hp_60
        refine xr_st (st' := [.int x_57, .int x_53, .int (100 * x_49)]) rfl ?_
        refine xr_imul (n := 74) C dd_X9_bestLayout_2.2.2.2.2.1 rfl ?_
        refine xr_iadd (n := 75) C dd_X9_bestLayout_2.2.2.2.2.2.1 rfl ?_
        refine xr_istore (n := 77) C [(6, .int ((100 * x_49) + (x_53 * x_57))), (0, .ref g), (1, .ref a0_39), (2, .int s_39.1), (3, .int x_2), (4, .int s_6.2.1), (5, .int s_39.2.1)] dd_X9_bestLayout_2.2.2.2.2.2.2.1 (by decide) rfl rfl ?_
        refine xr_aload_n (n := 78) (j := 2) C dd_X9_bestLayout_2.2.2.2.2.2.2.2.1 rfl rfl ?_
        refine xr_alen (n := 79) C 8 0 rfl 1 rfl rfl dd_X9_bestLayout_2.2.2.2.2.2.2.2.2.1 rfl ?_
        refine xr_if_le (tgt := 91) (n := 82) C dd_X9_bestLayout_2.2.2.2.2.2.2.2.2.2.1 rfl rfl (fun c_61 => ?_) (fun c_61 => ?_)
        · replace ho_39 := yf_t c_61 ho_39
          refine xr_iconst (n := 92) (v := 2) C dd_X9_bestLayout_2.2.2.2.2.2.2.2.2.2.2.2.2.2.2.1 rfl rfl ?_
          obtain ⟨g_63, ho_39⟩ := yf_g ho_39
          refine xr_newa (n := 94) C u_108 (by decide) (N' := 2) (by decide) (by decide) g_63.1 g_63.2 dX9_bestLayout_92 rfl (fun q_62 => ?_)
          refine xr_eq (bs' := [[(g, .inr (11, [.int gth, .ref gw, .ref gB, .ref gK, .ref gU, .ref gS, .int gbe, .int gwo, .long gta, .ref gn, .int glr, .int glc, .int gti, .int ggo, .ref gR, .int gch, .ref gD]))], [(gw, .inr (10, [.int gwr, .int gwk, .int gwc, .int gwg, .int gws, .ref gwa, .ref gwb]))], [(gwa, .inl (cy 3, gwan, .inr (.inr (.inr (.inr (yad gwad))))))], xg_rows gwad gwan (cy 1) gwak gwaG, [(gwb, .inl (cy 3, gwbn, .inr (.inr (.inr (.inr (yad gwbd))))))], xg_rows gwbd gwbn (cy 1) gwbk gwbG, [(gK, .inl (cy 4, 5, .inr (.inr (.inr (.inr (yad gKd))))))], xg_rows gKd 5 (cy 2) 5 gKG, [(a0_39, .inl (cy 1, s_39.2.2.2.1, .inl s_39.2.2.1))], [(q_62, .inl (cy 1, 2, .inl (fun _ => 0)))]]) rfl ?_
          refine xr_dup (n := 95) C dd_X9_bestLayout_2.2.2.2.2.2.2.2.2.2.2.2.2.2.2.2.1 rfl rfl ?_
          refine xr_iconst (n := 96) (v := 0) C dd_X9_bestLayout_3.1 rfl rfl ?_
          refine xr_iload (n := 98) (j := 5) C dd_X9_bestLayout_3.2.1 rfl rfl ?_
          obtain ⟨g_64, ho_39⟩ := yf_g ho_39
          refine xr_iast (n := 99) C 9 0 rfl rfl g_64 [[(g, .inr (11, [.int gth, .ref gw, .ref gB, .ref gK, .ref gU, .ref gS, .int gbe, .int gwo, .long gta, .ref gn, .int glr, .int glc, .int gti, .int ggo, .ref gR, .int gch, .ref gD]))], [(gw, .inr (10, [.int gwr, .int gwk, .int gwc, .int gwg, .int gws, .ref gwa, .ref gwb]))], [(gwa, .inl (cy 3, gwan, .inr (.inr (.inr (.inr (yad gwad))))))], xg_rows gwad gwan (cy 1) gwak gwaG, [(gwb, .inl (cy 3, gwbn, .inr (.inr (.inr (.inr (yad gwbd))))))], xg_rows gwbd gwbn (cy 1) gwbk gwbG, [(gK, .inl (cy 4, 5, .inr (.inr (.inr (.inr (yad gKd))))))], xg_rows gKd 5 (cy 2) 5 gKG, [(a0_39, .inl (cy 1, s_39.2.2.2.1, .inl s_39.2.2.1))], [(q_62, .inl (cy 1, 2, .inl (upd (fun _ => 0) (0 : Int32).toNatClampNeg s_6.2.1)))]] rfl dd_X9_bestLayout_3.2.2.1 rfl ?_
          refine xr_dup (n := 100) C dd_X9_bestLayout_3.2.2.2.1 rfl rfl ?_
          refine xr_iconst (n := 101) (v := 1) C dd_X9_bestLayout_3.2.2.2.2.1 rfl rfl ?_
          refine xr_iload (n := 103) (j := 6) C dd_X9_bestLayout_3.2.2.2.2.2.1 rfl rfl ?_
          obtain ⟨g_65, ho_39⟩ := yf_g ho_39
          refine xr_iast (n := 104) C 9 0 rfl rfl g_65 [[(g, .inr (11, [.int gth, .ref gw, .ref gB, .ref gK, .ref gU, .ref gS, .int gbe, .int gwo, .long gta, .ref gn, .int glr, .int glc, .int gti, .int ggo, .ref gR, .int gch, .ref gD]))], [(gw, .inr (10, [.int gwr, .int gwk, .int gwc, .int gwg, .int gws, .ref gwa, .ref gwb]))], [(gwa, .inl (cy 3, gwan, .inr (.inr (.inr (.inr (yad gwad))))))], xg_rows gwad gwan (cy 1) gwak gwaG, [(gwb, .inl (cy 3, gwbn, .inr (.inr (.inr (.inr (yad gwbd))))))], xg_rows gwbd gwbn (cy 1) gwbk gwbG, [(gK, .inl (cy 4, 5, .inr (.inr (.inr (.inr (yad gKd))))))], xg_rows gKd 5 (cy 2) 5 gKG, [(a0_39, .inl (cy 1, s_39.2.2.2.1, .inl s_39.2.2.1))], [(q_62, .inl (cy 1, 2, .inl (upd (upd (fun _ => 0) (0 : Int32).toNatClampNeg s_6.2.1) (1 : Int32).toNatClampNeg s_39.2.1)))]] rfl dd_X9_bestLayout_3.2.2.2.2.2.2.1 rfl ?_
          refine xr_astore_n (n := 105) C [(1, .ref q_62), (6, .int ((100 * x_49) + (x_53 * x_57))), (0, .ref g), (2, .int s_39.1), (3, .int x_2), (4, .int s_6.2.1), (5, .int s_39.2.1)] dd_X9_bestLayout_3.2.2.2.2.2.2.2.1 (by decide) rfl rfl ?_
          refine xr_iload (n := 107) (j := 1) C dd_X9_bestLayout_3.2.2.2.2.2.2.2.2.1 rfl rfl ?_
          refine xr_istore_n (n := 108) C [(2, .int ((100 * x_49) + (x_53 * x_57))), (1, .ref q_62), (6, .int ((100 * x_49) + (x_53 * x_57))), (0, .ref g), (3, .int x_2), (4, .int s_6.2.1), (5, .int s_39.2.1)] dd_X9_bestLayout_3.2.2.2.2.2.2.2.2.2.1 (by decide) rfl rfl ?_
          refine xr_iinc (j := 6) (v := s_39.2.1 + 1) (n := 111) C [(5, .int (s_39.2.1 + 1)), (2, .int ((100 * x_49) + (x_53 * x_57))), (1, .ref q_62), (6, .int ((100 * x_49) + (x_53 * x_57))), (0, .ref g), (3, .int x_2), (4, .int s_6.2.1)] dd_X9_bestLayout_3.2.2.2.2.2.2.2.2.2.2.1 rfl rfl (by decide) rfl rfl ?_
          refine xr_goto (tgt := 27) C dd_X9_bestLayout_3.2.2.2.2.2.2.2.2.2.2.2.1 rfl ?_
          refine xr_lv (lv' := [(0, .ref g), (1, .ref q_62), (2, .int ((100 * x_49) + (x_53 * x_57))), (3, .int x_2), (4, .int s_6.2.1), (5, .int (s_39.2.1 + 1))]) [4, 2, 1, 5, 6, 0] rfl ?_
          refine xr_perm C 10 [0, 1, 2, 3, 4, 5, 6, 7, 9] [8] [[(g, .inr (11, [.int gth, .ref gw, .ref gB, .ref gK, .ref gU, .ref gS, .int gbe, .int gwo, .long gta, .ref gn, .int glr, .int glc, .int gti, .int ggo, .ref gR, .int gch, .ref gD]))], [(gw, .inr (10, [.int gwr, .int gwk, .int gwc, .int gwg, .int gws, .ref gwa, .ref gwb]))], [(gwa, .inl (cy 3, gwan, .inr (.inr (.inr (.inr (yad gwad))))))], xg_rows gwad gwan (cy 1) gwak gwaG, [(gwb, .inl (cy 3, gwbn, .inr (.inr (.inr (.inr (yad gwbd))))))], xg_rows gwbd gwbn (cy 1) gwbk gwbG, [(gK, .inl (cy 4, 5, .inr (.inr (.inr (.inr (yad gKd))))))], xg_rows gKd 5 (cy 2) 5 gKG, [(q_62, .inl (cy 1, 2, .inl (upd (upd (fun _ => 0) (0 : Int32).toNatClampNeg s_6.2.1) (1 : Int32).toNatClampNeg s_39.2.1)))]] rfl (by decide +kernel) rfl ?_
          exact hk_39 ((100 * x_49) + (x_53 * x_57), s_39.2.1 + 1, upd (upd (fun _ => 0) (0 : Int32).toNatClampNeg s_6.2.1) (1 : Int32).toNatClampNeg s_39.2.1, 2, s_39.2.2.2.2.1 + 1, s_39.2.2.2.2.2 + 2) (Option.some.inj ho_39).symm q_62
        · replace ho_39 := yf_f c_61 ho_39
          refine xr_iload (n := 84) (j := 0) C dd_X9_bestLayout_2.2.2.2.2.2.2.2.2.2.2.1 rfl rfl ?_
          refine xr_iload_n (n := 85) (j := 3) C dd_X9_bestLayout_2.2.2.2.2.2.2.2.2.2.2.2.1 rfl rfl ?_
          refine xr_icmp_lt (tgt := 91) (n := 88) C dd_X9_bestLayout_2.2.2.2.2.2.2.2.2.2.2.2.2.1 rfl rfl (fun c_66 => ?_) (fun c_66 => ?_)
          · replace ho_39 := yf_t c_66 ho_39
            refine xr_iconst (n := 92) (v := 2) C dd_X9_bestLayout_2.2.2.2.2.2.2.2.2.2.2.2.2.2.2.1 rfl rfl ?_
            obtain ⟨g_68, ho_39⟩ := yf_g ho_39
            refine xr_newa (n := 94) C u_108 (by decide) (N' := 2) (by decide) (by decide) g_68.1 g_68.2 dX9_bestLayout_92 rfl (fun q_67 => ?_)
            refine xr_eq (bs' := [[(g, .inr (11, [.int gth, .ref gw, .ref gB, .ref gK, .ref gU, .ref gS, .int gbe, .int gwo, .long gta, .ref gn, .int glr, .int glc, .int gti, .int ggo, .ref gR, .int gch, .ref gD]))], [(gw, .inr (10, [.int gwr, .int gwk, .int gwc, .int gwg, .int gws, .ref gwa, .ref gwb]))], [(gwa, .inl (cy 3, gwan, .inr (.inr (.inr (.inr (yad gwad))))))], xg_rows gwad gwan (cy 1) gwak gwaG, [(gwb, .inl (cy 3, gwbn, .inr (.inr (.inr (.inr (yad gwbd))))))], xg_rows gwbd gwbn (cy 1) gwbk gwbG, [(gK, .inl (cy 4, 5, .inr (.inr (.inr (.inr (yad gKd))))))], xg_rows gKd 5 (cy 2) 5 gKG, [(a0_39, .inl (cy 1, s_39.2.2.2.1, .inl s_39.2.2.1))], [(q_67, .inl (cy 1, 2, .inl (fun _ => 0)))]]) rfl ?_
            refine xr_dup (n := 95) C dd_X9_bestLayout_2.2.2.2.2.2.2.2.2.2.2.2.2.2.2.2.1 rfl rfl ?_
            refine xr_iconst (n := 96) (v := 0) C dd_X9_bestLayout_3.1 rfl rfl ?_
            refine xr_iload (n := 98) (j := 5) C dd_X9_bestLayout_3.2.1 rfl rfl ?_
            obtain ⟨g_69, ho_39⟩ := yf_g ho_39
            refine xr_iast (n := 99) C 9 0 rfl rfl g_69 [[(g, .inr (11, [.int gth, .ref gw, .ref gB, .ref gK, .ref gU, .ref gS, .int gbe, .int gwo, .long gta, .ref gn, .int glr, .int glc, .int gti, .int ggo, .ref gR, .int gch, .ref gD]))], [(gw, .inr (10, [.int gwr, .int gwk, .int gwc, .int gwg, .int gws, .ref gwa, .ref gwb]))], [(gwa, .inl (cy 3, gwan, .inr (.inr (.inr (.inr (yad gwad))))))], xg_rows gwad gwan (cy 1) gwak gwaG, [(gwb, .inl (cy 3, gwbn, .inr (.inr (.inr (.inr (yad gwbd))))))], xg_rows gwbd gwbn (cy 1) gwbk gwbG, [(gK, .inl (cy 4, 5, .inr (.inr (.inr (.inr (yad gKd))))))], xg_rows gKd 5 (cy 2) 5 gKG, [(a0_39, .inl (cy 1, s_39.2.2.2.1, .inl s_39.2.2.1))], [(q_67, .inl (cy 1, 2, .inl (upd (fun _ => 0) (0 : Int32).toNatClampNeg s_6.2.1)))]] rfl dd_X9_bestLayout_3.2.2.1 rfl ?_
            refine xr_dup (n := 100) C dd_X9_bestLayout_3.2.2.2.1 rfl rfl ?_
            refine xr_iconst (n := 101) (v := 1) C dd_X9_bestLayout_3.2.2.2.2.1 rfl rfl ?_
            refine xr_iload (n := 103) (j := 6) C dd_X9_bestLayout_3.2.2.2.2.2.1 rfl rfl ?_
            obtain ⟨g_70, ho_39⟩ := yf_g ho_39
            refine xr_iast (n := 104) C 9 0 rfl rfl g_70 [[(g, .inr (11, [.int gth, .ref gw, .ref gB, .ref gK, .ref gU, .ref gS, .int gbe, .int gwo, .long gta, .ref gn, .int glr, .int glc, .int gti, .int ggo, .ref gR, .int gch, .ref gD]))], [(gw, .inr (10, [.int gwr, .int gwk, .int gwc, .int gwg, .int gws, .ref gwa, .ref gwb]))], [(gwa, .inl (cy 3, gwan, .inr (.inr (.inr (.inr (yad gwad))))))], xg_rows gwad gwan (cy 1) gwak gwaG, [(gwb, .inl (cy 3, gwbn, .inr (.inr (.inr (.inr (yad gwbd))))))], xg_rows gwbd gwbn (cy 1) gwbk gwbG, [(gK, .inl (cy 4, 5, .inr (.inr (.inr (.inr (yad gKd))))))], xg_rows gKd 5 (cy 2) 5 gKG, [(a0_39, .inl (cy 1, s_39.2.2.2.1, .inl s_39.2.2.1))], [(q_67, .inl (cy 1, 2, .inl (upd (upd (fun _ => 0) (0 : Int32).toNatClampNeg s_6.2.1) (1 : Int32).toNatClampNeg s_39.2.1)))]] rfl dd_X9_bestLayout_3.2.2.2.2.2.2.1 rfl ?_
            refine xr_astore_n (n := 105) C [(1, .ref q_67), (6, .int ((100 * x_49) + (x_53 * x_57))), (0, .ref g), (2, .int s_39.1), (3, .int x_2), (4, .int s_6.2.1), (5, .int s_39.2.1)] dd_X9_bestLayout_3.2.2.2.2.2.2.2.1 (by decide) rfl rfl ?_
            refine xr_iload (n := 107) (j := 1) C dd_X9_bestLayout_3.2.2.2.2.2.2.2.2.1 rfl rfl ?_
            refine xr_istore_n (n := 108) C [(2, .int ((100 * x_49) + (x_53 * x_57))), (1, .ref q_67), (6, .int ((100 * x_49) + (x_53 * x_57))), (0, .ref g), (3, .int x_2), (4, .int s_6.2.1), (5, .int s_39.2.1)] dd_X9_bestLayout_3.2.2.2.2.2.2.2.2.2.1 (by decide) rfl rfl ?_
            refine xr_iinc (j := 6) (v := s_39.2.1 + 1) (n := 111) C [(5, .int (s_39.2.1 + 1)), (2, .int ((100 * x_49) + (x_53 * x_57))), (1, .ref q_67), (6, .int ((100 * x_49) + (x_53 * x_57))), (0, .ref g), (3, .int x_2), (4, .int s_6.2.1)] dd_X9_bestLayout_3.2.2.2.2.2.2.2.2.2.2.1 rfl rfl (by decide) rfl rfl ?_
            refine xr_goto (tgt := 27) C dd_X9_bestLayout_3.2.2.2.2.2.2.2.2.2.2.2.1 rfl ?_
            refine xr_lv (lv' := [(0, .ref g), (1, .ref q_67), (2, .int ((100 * x_49) + (x_53 * x_57))), (3, .int x_2), (4, .int s_6.2.1), (5, .int (s_39.2.1 + 1))]) [4, 2, 1, 5, 6, 0] rfl ?_
            refine xr_perm C 10 [0, 1, 2, 3, 4, 5, 6, 7, 9] [8] [[(g, .inr (11, [.int gth, .ref gw, .ref gB, .ref gK, .ref gU, .ref gS, .int gbe, .int gwo, .long gta, .ref gn, .int glr, .int glc, .int gti, .int ggo, .ref gR, .int gch, .ref gD]))], [(gw, .inr (10, [.int gwr, .int gwk, .int gwc, .int gwg, .int gws, .ref gwa, .ref gwb]))], [(gwa, .inl (cy 3, gwan, .inr (.inr (.inr (.inr (yad gwad))))))], xg_rows gwad gwan (cy 1) gwak gwaG, [(gwb, .inl (cy 3, gwbn, .inr (.inr (.inr (.inr (yad gwbd))))))], xg_rows gwbd gwbn (cy 1) gwbk gwbG, [(gK, .inl (cy 4, 5, .inr (.inr (.inr (.inr (yad gKd))))))], xg_rows gKd 5 (cy 2) 5 gKG, [(q_67, .inl (cy 1, 2, .inl (upd (upd (fun _ => 0) (0 : Int32).toNatClampNeg s_6.2.1) (1 : Int32).toNatClampNeg s_39.2.1)))]] rfl (by decide +kernel) rfl ?_
            exact hk_39 ((100 * x_49) + (x_53 * x_57), s_39.2.1 + 1, upd (upd (fun _ => 0) (0 : Int32).toNatClampNeg s_6.2.1) (1 : Int32).toNatClampNeg s_39.2.1, 2, s_39.2.2.2.2.1 + 1, s_39.2.2.2.2.2 + 2) (Option.some.inj ho_39).symm q_67
          · replace ho_39 := yf_f c_66 ho_39
            refine xr_goto (tgt := 108) C dd_X9_bestLayout_2.2.2.2.2.2.2.2.2.2.2.2.2.2.1 rfl ?_
            refine xr_iinc (j := 6) (v := s_39.2.1 + 1) (n := 111) C [(5, .int (s_39.2.1 + 1)), (6, .int ((100 * x_49) + (x_53 * x_57))), (0, .ref g), (1, .ref a0_39), (2, .int s_39.1), (3, .int x_2), (4, .int s_6.2.1)] dd_X9_bestLayout_3.2.2.2.2.2.2.2.2.2.2.1 rfl rfl (by decide) rfl rfl ?_
            refine xr_goto (tgt := 27) C dd_X9_bestLayout_3.2.2.2.2.2.2.2.2.2.2.2.1 rfl ?_
            refine xr_lv (lv' := [(0, .ref g), (1, .ref a0_39), (2, .int s_39.1), (3, .int x_2), (4, .int s_6.2.1), (5, .int (s_39.2.1 + 1))]) [2, 3, 4, 5, 6, 0] rfl ?_
            exact hk_39 (s_39.1, s_39.2.1 + 1, s_39.2.2.1, s_39.2.2.2.1, s_39.2.2.2.2.1, s_39.2.2.2.2.2) (Option.some.inj ho_39).symm a0_39
      · replace ho_39 := yf_f c_48 ho_39
        refine xr_goto (tgt := 108) C dd_X9_bestLayout_1.2.2.2.2.2.2.2.1 rfl ?_
        refine xr_iinc (j := 5) (v := s_39.2.1 + 1) (n := 111) C [(5, .int (s_39.2.1 + 1)), (0, .ref g), (1, .ref a0_39), (2, .int s_39.1), (3, .int x_2), (4, .int s_6.2.1)] dd_X9_bestLayout_3.2.2.2.2.2.2.2.2.2.2.1 rfl rfl (by decide) rfl rfl ?_
        refine xr_goto (tgt := 27) C dd_X9_bestLayout_3.2.2.2.2.2.2.2.2.2.2.2.1 rfl ?_
        refine xr_lv (lv' := [(0, .ref g), (1, .ref a0_39), (2, .int s_39.1), (3, .int x_2), (4, .int s_6.2.1), (5, .int (s_39.2.1 + 1))]) [1, 2, 3, 4, 5, 0] rfl ?_
        exact hk_39 (s_39.1, s_39.2.1 + 1, s_39.2.2.1, s_39.2.2.2.1, s_39.2.2.2.2.1, s_39.2.2.2.2.2) (Option.some.inj ho_39).symm a0_39
