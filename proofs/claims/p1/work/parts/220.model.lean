def fX9_row_r (glr : Int32) (glc : Int32) (gBG : Nat → Nat → Int32) (gKG : Nat → Nat → Int32) (i1 : Int32) : Option ((Int32 × (Nat → Int32) × Nat) ⊕ Int32) := ((fX9_isIn i1 0 4).bind fun x_1 => ((((if x_1 = 0 then some 1 else some 0) : Option (Int32))).bind fun r_6 => ((fX9_start_r r_6 1).bind fun x_7 => (if x_7.1 = 0 then ((fJ4_init_da8c8).bind fun x_13 => ((wl (S := Int32 × Int32 × (Nat → Int32)) (B := Int32 × Int32 × (Nat → Int32)) (fun s_18 => (if 5 ≤ s_18.1 then some (.inr (s_18.1, s_18.2.1, s_18.2.2)) else ((fX9_has glr i1).bind fun x_27 => ((((if x_27 = 0 then some 0 else ((fX9_has glc s_18.1).bind fun x_61 => (if x_61 = 0 then some 0 else some 1))) : Option (Int32))).bind fun r_37 => (if ¬ (i1 < 0 ∨ 5 ≤ i1.toNatClampNeg) then (if ¬ (s_18.1 < 0 ∨ 5 ≤ s_18.1.toNatClampNeg) then ((((if (gKG i1.toNatClampNeg s_18.1.toNatClampNeg) = 0 then (if ¬ (i1 < 0 ∨ 5 ≤ i1.toNatClampNeg) then (if ¬ (s_18.1 < 0 ∨ 5 ≤ s_18.1.toNatClampNeg) then (if (gBG i1.toNatClampNeg s_18.1.toNatClampNeg) = 0 then (if r_37 = 0 then some 46 else some 111) else some 63) else none) else none) else some 120) : Option (Int32))).bind fun r_45 => ((fJ4_append_cf468 s_18.2.1 s_18.2.2 16 r_45).bind fun x_46 => some (.inl (s_18.1 + 1, x_46.1, x_46.2)))) else none) else none))))) yFuel (0, 0, fun _ => 0)).bind fun b_18 => ((fJ4_toString_0e30d b_18.2.1 b_18.2.2 16).bind fun x_19 => some (.inl (x_7.2, x_19.1, x_19.2))))) else some (.inr x_7.2)))))
set_option maxHeartbeats 4000000 in
set_option maxRecDepth 100000 in
theorem kX9_row_r (l : Launch) (D : va_G) (cy : Nat → ClassId) (g : Nat) (gth : Int32) (gw : Nat) (gB : Nat) (gK : Nat) (gU : Nat) (gS : Nat) (gbe : Int32) (gwo : Int32) (gta : Int64) (gn : Nat) (glr : Int32) (glc : Int32) (gti : Int32) (ggo : Int32) (gR : Nat) (gch : Int32) (gD : Nat) (gBd : Nat → Nat) (gBG : Nat → Nat → Int32) (gKd : Nat → Nat) (gKG : Nat → Nat → Int32) (gnr : Int32) (gnk : Int32) (gnc : Int32) (gng : Int32) (gns : Int32) (gna : Nat) (gnb : Nat) (i1 : Int32) {res : (Int32 × (Nat → Int32) × Nat) ⊕ Int32} (hR : fX9_row_r glr glc gBG gKG i1 = some res) : YM l D cy yX9_row hX9_row 7 4 40 [.ref g, .int i1] [[(g, .inr (11, [.int gth, .ref gw, .ref gB, .ref gK, .ref gU, .ref gS, .int gbe, .int gwo, .long gta, .ref gn, .int glr, .int glc, .int gti, .int ggo, .ref gR, .int gch, .ref gD]))], [(gB, .inl (cy 4, 5, .inr (.inr (.inr (.inr (yad gBd))))))], xg_rows gBd 5 (cy 2) 5 gBG, [(gK, .inl (cy 4, 5, .inr (.inr (.inr (.inr (yad gKd))))))], xg_rows gKd 5 (cy 2) 5 gKG, [(gn, .inr (10, [.int gnr, .int gnk, .int gnc, .int gng, .int gns, .ref gna, .ref gnb]))]] (fun v u => (∃ r, res = .inl r ∧ ∃ rs : Nat, ∃ rsv : Nat, v = some (.ref rs) ∧ u = [[(g, .inr (11, [.int r.1, .ref gw, .ref gB, .ref gK, .ref gU, .ref gS, .int gbe, .int gwo, .long gta, .ref gn, .int glr, .int glc, .int gti, .int ggo, .ref gR, .int gch, .ref gD]))], [(gB, .inl (cy 4, 5, .inr (.inr (.inr (.inr (yad gBd))))))], xg_rows gBd 5 (cy 2) 5 gBG, [(gK, .inl (cy 4, 5, .inr (.inr (.inr (.inr (yad gKd))))))], xg_rows gKd 5 (cy 2) 5 gKG, [(gn, .inr (10, [.int gnr, .int gnk, .int gnc, .int gng, .int gns, .ref gna, .ref gnb]))], [(rs, .inr (0, [.ref rsv, .int 0, .int 0, .int 0]))], [(rsv, .inl (cy 0, r.2.2, .inl r.2.1))]]) ∨ (∃ r, res = .inr r ∧ ∃ rs : Nat, v = some (.ref rs) ∧ u = [[(g, .inr (11, [.int r, .ref gw, .ref gB, .ref gK, .ref gU, .ref gS, .int gbe, .int gwo, .long gta, .ref gn, .int glr, .int glc, .int gti, .int ggo, .ref gR, .int gch, .ref gD]))], [(gB, .inl (cy 4, 5, .inr (.inr (.inr (.inr (yad gBd))))))], xg_rows gBd 5 (cy 2) 5 gBG, [(gK, .inl (cy 4, 5, .inr (.inr (.inr (.inr (yad gKd))))))], xg_rows gKd 5 (cy 2) 5 gKG, [(gn, .inr (10, [.int gnr, .int gnk, .int gnc, .int gng, .int gns, .ref gna, .ref gnb]))]])) := by
  unfold fX9_row_r at hR
  refine YM.ofA (cc := cX9_row) (maxL := 5) (ret := (some (.object "java/lang/String"))) (by decide +kernel) rfl (Nat.le_of_ble_eq_true rfl) [(0, .ref g), (1, .int i1)] rfl (.object "java/lang/String") rfl (Or.inl ⟨_, rfl⟩) (fun p e s m args below meth c A H0 Q C hnm ret => ?_)
  refine xr_aload_n (n := 1) (j := 0) C dd_X9_row_0.1 rfl rfl ?_
  refine xr_iload_n (n := 2) (j := 1) C dd_X9_row_0.2.1 rfl rfl ?_
  refine xr_iconst (n := 3) (v := 0) C dd_X9_row_0.2.2.1 rfl rfl ?_
  refine xr_iconst (n := 4) (v := 4) C dd_X9_row_0.2.2.2.1 rfl rfl ?_
  obtain ⟨x_1, hx_1, hR⟩ := yf_b hR
  refine xr_callSp (n := 7) (As := [.int i1, .int 0, .int 4]) (rest := [.ref g]) C (kX9_isIn l D cy (i1 := i1) (i2 := 0) (i3 := 4) hx_1) mX9_isIn u_1298 u_1299 6 [] [0, 1, 2, 3, 4, 5] rfl (by decide +kernel) rfl rfl rfl rfl (Nat.le_of_ble_eq_true rfl) (Nat.le_of_ble_eq_true rfl) (Nat.le_of_ble_eq_true rfl) (Nat.le_of_ble_eq_true rfl) (Nat.le_of_ble_eq_true rfl) dd_X9_row_0.2.2.2.2.1 rfl (fun _ _ hp => hp.2) (fun v_2 hp_4 => ?_)
  obtain ⟨rfl, -⟩ := hp_4
  refine xr_st (st' := [.int x_1, .ref g]) rfl ?_
  obtain ⟨r_6, hE_6, hR⟩ := yf_b hR
  have J_6 : X p l e (yR 7 4 40) s m args below meth c D A H0 5 Q [[(g, .inr (11, [.int gth, .ref gw, .ref gB, .ref gK, .ref gU, .ref gS, .int gbe, .int gwo, .long gta, .ref gn, .int glr, .int glc, .int gti, .int ggo, .ref gR, .int gch, .ref gD]))], [(gB, .inl (cy 4, 5, .inr (.inr (.inr (.inr (yad gBd))))))], xg_rows gBd 5 (cy 2) 5 gBG, [(gK, .inl (cy 4, 5, .inr (.inr (.inr (.inr (yad gKd))))))], xg_rows gKd 5 (cy 2) 5 gKG, [(gn, .inr (10, [.int gnr, .int gnk, .int gnc, .int gng, .int gns, .ref gna, .ref gnb]))]] 0 0 [(0, .ref g), (1, .int i1)] 15 [.int r_6, .ref g] := by
    refine xr_iconst (n := 16) (v := 1) C dd_X9_row_0.2.2.2.2.2.2.2.2.2.1 rfl rfl ?_
    obtain ⟨x_7, hx_7, hR⟩ := yf_b hR
    refine xr_callV (n := 19) (As := [.int r_6, .int 1]) (rest := []) C (kX9_start_r l D cy (g := g) (gth := gth) (gw := gw) (gB := gB) (gK := gK) (gU := gU) (gS := gS) (gbe := gbe) (gwo := gwo) (gta := gta) (gn := gn) (glr := glr) (glc := glc) (gti := gti) (ggo := ggo) (gR := gR) (gch := gch) (gD := gD) (i1 := r_6) (i2 := 1) hx_7) mX9_start u_1301 u_1303 u_29 0 rfl rfl 6 [0] [1, 2, 3, 4, 5] rfl (by decide +kernel) rfl rfl rfl rfl (Nat.le_of_ble_eq_true rfl) (Nat.le_of_ble_eq_true rfl) (Nat.le_of_ble_eq_true rfl) (Nat.le_of_ble_eq_true rfl) (Nat.le_of_ble_eq_true rfl) dd_X9_row_0.2.2.2.2.2.2.2.2.2.2.1 rfl (fun v_8 u_9 hp_10 => ?_)
    obtain ⟨rfl, rfl⟩ := hp_10
    refine xr_perm C 6 [0, 1, 2, 3, 4, 5] [] [[(g, .inr (11, [.int x_7.2, .ref gw, .ref gB, .ref gK, .ref gU, .ref gS, .int gbe, .int gwo, .long gta, .ref gn, .int glr, .int glc, .int gti, .int ggo, .ref gR, .int gch, .ref gD]))], [(gB, .inl (cy 4, 5, .inr (.inr (.inr (.inr (yad gBd))))))], xg_rows gBd 5 (cy 2) 5 gBG, [(gK, .inl (cy 4, 5, .inr (.inr (.inr (.inr (yad gKd))))))], xg_rows gKd 5 (cy 2) 5 gKG, [(gn, .inr (10, [.int gnr, .int gnk, .int gnc, .int gng, .int gns, .ref gna, .ref gnb]))]] rfl (by decide +kernel) rfl ?_
    refine xr_st (st' := [.int x_7.1]) rfl ?_
    refine xr_if_eq (tgt := 26) (n := 22) C dd_X9_row_0.2.2.2.2.2.2.2.2.2.2.2.1 rfl rfl (fun c_11 => ?_) (fun c_11 => ?_)
    · replace hR := yf_t c_11 hR
      refine xr_new (n := 29) (ci := 1) C tyJ4 tyJ4_ok in_J4 u_1552 u_908 u_76 rfl [.null, .int 0, .int 0, .int 0] (by decide) (Nat.le_of_ble_eq_true rfl) (Nat.le_of_ble_eq_true rfl) dd_X9_row_0.2.2.2.2.2.2.2.2.2.2.2.2.2.2.1 rfl (fun q_12 => ?_)
      refine xr_eq (bs' := [[(g, .inr (11, [.int x_7.2, .ref gw, .ref gB, .ref gK, .ref gU, .ref gS, .int gbe, .int gwo, .long gta, .ref gn, .int glr, .int glc, .int gti, .int ggo, .ref gR, .int gch, .ref gD]))], [(gB, .inl (cy 4, 5, .inr (.inr (.inr (.inr (yad gBd))))))], xg_rows gBd 5 (cy 2) 5 gBG, [(gK, .inl (cy 4, 5, .inr (.inr (.inr (.inr (yad gKd))))))], xg_rows gKd 5 (cy 2) 5 gKG, [(gn, .inr (10, [.int gnr, .int gnk, .int gnc, .int gng, .int gns, .ref gna, .ref gnb]))], [(q_12, .inr (1, [.null, .int 0, .int 0, .int 0]))]]) rfl ?_
      refine xr_dup (n := 30) C dd_X9_row_0.2.2.2.2.2.2.2.2.2.2.2.2.2.2.2.1 rfl rfl ?_
      obtain ⟨x_13, hx_13, hR⟩ := yf_b hR
      refine xr_callI (n := 33) (As := []) (rest := [.ref q_12]) C (kJ4_init_da8c8 l D cy (h := q_12) hx_13) mJ4_init_da8c8 u_1553 u_910 rfl 7 [6] [0, 1, 2, 3, 4, 5] rfl (by decide +kernel) rfl rfl rfl rfl (Nat.le_of_ble_eq_true rfl) (Nat.le_of_ble_eq_true rfl) (Nat.le_of_ble_eq_true rfl) (Nat.le_of_ble_eq_true rfl) (Nat.le_of_ble_eq_true rfl) dd_X9_row_1.1 rfl (fun v_14 u_15 hp_16 => ?_)
      obtain ⟨q_17, rfl, rfl⟩ := hp_16
      refine xr_perm C 8 [2, 3, 4, 5, 6, 7, 0, 1] [] [[(g, .inr (11, [.int x_7.2, .ref gw, .ref gB, .ref gK, .ref gU, .ref gS, .int gbe, .int gwo, .long gta, .ref gn, .int glr, .int glc, .int gti, .int ggo, .ref gR, .int gch, .ref gD]))], [(gB, .inl (cy 4, 5, .inr (.inr (.inr (.inr (yad gBd))))))], xg_rows gBd 5 (cy 2) 5 gBG, [(gK, .inl (cy 4, 5, .inr (.inr (.inr (.inr (yad gKd))))))], xg_rows gKd 5 (cy 2) 5 gKG, [(gn, .inr (10, [.int gnr, .int gnk, .int gnc, .int gng, .int gns, .ref gna, .ref gnb]))], [(q_12, .inr (1, [.ref q_17, .int 0, .int 0, .int 0]))], [(q_17, .inl (cy 0, 16, .inl (fun _ => 0)))]] rfl (by decide +kernel) rfl ?_
      refine xr_astore_n (n := 34) C [(2, .ref q_12), (0, .ref g), (1, .int i1)] dd_X9_row_1.2.1 (by decide) rfl rfl ?_
      refine xr_iconst (n := 35) (v := 0) C dd_X9_row_1.2.2.1 rfl rfl ?_
      refine xr_istore_n (n := 36) C [(3, .int 0), (2, .ref q_12), (0, .ref g), (1, .int i1)] dd_X9_row_1.2.2.2.1 (by decide) rfl rfl ?_
      refine xr_lv (lv' := [(0, .ref g), (1, .int i1), (2, .ref q_12), (3, .int 0)]) [2, 3, 1, 0] rfl ?_
      obtain ⟨b_18, hb_18, hR⟩ := yf_b hR
      have K_18 : X p l e (yR 7 4 40) s m args below meth c D A H0 5 Q [[(g, .inr (11, [.int x_7.2, .ref gw, .ref gB, .ref gK, .ref gU, .ref gS, .int gbe, .int gwo, .long gta, .ref gn, .int glr, .int glc, .int gti, .int ggo, .ref gR, .int gch, .ref gD]))], [(gB, .inl (cy 4, 5, .inr (.inr (.inr (.inr (yad gBd))))))], xg_rows gBd 5 (cy 2) 5 gBG, [(gK, .inl (cy 4, 5, .inr (.inr (.inr (.inr (yad gKd))))))], xg_rows gKd 5 (cy 2) 5 gKG, [(gn, .inr (10, [.int gnr, .int gnk, .int gnc, .int gng, .int gns, .ref gna, .ref gnb]))], [(q_12, .inr (1, [.ref q_17, .int 0, .int 0, .int b_18.2.1]))], [(q_17, .inl (cy 0, 16, .inl b_18.2.2))]] (0 + 1 + 1) (0 + 4 + 16) [(2, .ref q_12)] 132 [] := by
        refine xr_aload_n (n := 133) (j := 0) C dd_X9_row_4.2.2.2.2.1 rfl rfl ?_
        obtain ⟨x_19, hx_19, hR⟩ := yf_b hR
        refine xr_callV (n := 136) (As := []) (rest := []) C (kJ4_toString_0e30d l D cy (h := q_12) (hv := q_17) (hc := b_18.2.1) (hf := b_18.2.2) (hn := 16) hx_19) mJ4_toString_0e30d u_1555 u_1035 u_1036 6 rfl rfl 8 [6, 7] [0, 1, 2, 3, 4, 5] rfl (by decide +kernel) rfl rfl rfl rfl (Nat.le_of_ble_eq_true rfl) (Nat.le_of_ble_eq_true rfl) (Nat.le_of_ble_eq_true rfl) (Nat.le_of_ble_eq_true rfl) (Nat.le_of_ble_eq_true rfl) dd_X9_row_4.2.2.2.2.2.1 rfl (fun v_20 u_21 hp_22 => ?_)
        obtain ⟨q_23, q_24, rfl, rfl⟩ := hp_22
        refine xr_perm C 10 [4, 5, 6, 7, 8, 9, 0, 1, 2, 3] [] [[(g, .inr (11, [.int x_7.2, .ref gw, .ref gB, .ref gK, .ref gU, .ref gS, .int gbe, .int gwo, .long gta, .ref gn, .int glr, .int glc, .int gti, .int ggo, .ref gR, .int gch, .ref gD]))], [(gB, .inl (cy 4, 5, .inr (.inr (.inr (.inr (yad gBd))))))], xg_rows gBd 5 (cy 2) 5 gBG, [(gK, .inl (cy 4, 5, .inr (.inr (.inr (.inr (yad gKd))))))], xg_rows gKd 5 (cy 2) 5 gKG, [(gn, .inr (10, [.int gnr, .int gnk, .int gnc, .int gng, .int gns, .ref gna, .ref gnb]))], [(q_12, .inr (1, [.ref q_17, .int 0, .int 0, .int b_18.2.1]))], [(q_17, .inl (cy 0, 16, .inl b_18.2.2))], [(q_23, .inr (0, [.ref q_24, .int 0, .int 0, .int 0]))], [(q_24, .inl (cy 0, x_19.2, .inl x_19.1))]] rfl (by decide +kernel) rfl ?_
        refine xr_st (st' := [.ref q_23]) rfl ?_
        obtain rfl := Option.some.inj hR
        refine xr_perm C 10 [0, 1, 2, 3, 4, 5, 8, 9] [6, 7] [[(g, .inr (11, [.int x_7.2, .ref gw, .ref gB, .ref gK, .ref gU, .ref gS, .int gbe, .int gwo, .long gta, .ref gn, .int glr, .int glc, .int gti, .int ggo, .ref gR, .int gch, .ref gD]))], [(gB, .inl (cy 4, 5, .inr (.inr (.inr (.inr (yad gBd))))))], xg_rows gBd 5 (cy 2) 5 gBG, [(gK, .inl (cy 4, 5, .inr (.inr (.inr (.inr (yad gKd))))))], xg_rows gKd 5 (cy 2) 5 gKG, [(gn, .inr (10, [.int gnr, .int gnk, .int gnc, .int gng, .int gns, .ref gna, .ref gnb]))], [(q_23, .inr (0, [.ref q_24, .int 0, .int 0, .int 0]))], [(q_24, .inl (cy 0, x_19.2, .inl x_19.1))]] rfl (by decide +kernel) rfl ?_
        exact ret q_23 (Or.inl ⟨_, rfl, q_23, q_24, rfl, rfl⟩) (Nat.le_of_ble_eq_true rfl) (Nat.le_of_ble_eq_true rfl) dd_X9_row_4.2.2.2.2.2.2.1
      refine y_loop (P := fun (s_18 : Int32 × Int32 × (Nat → Int32)) => X p l e (yR 7 4 40) s m args below meth c D A H0 5 Q [[(g, .inr (11, [.int x_7.2, .ref gw, .ref gB, .ref gK, .ref gU, .ref gS, .int gbe, .int gwo, .long gta, .ref gn, .int glr, .int glc, .int gti, .int ggo, .ref gR, .int gch, .ref gD]))], [(gB, .inl (cy 4, 5, .inr (.inr (.inr (.inr (yad gBd))))))], xg_rows gBd 5 (cy 2) 5 gBG, [(gK, .inl (cy 4, 5, .inr (.inr (.inr (.inr (yad gKd))))))], xg_rows gKd 5 (cy 2) 5 gKG, [(gn, .inr (10, [.int gnr, .int gnk, .int gnc, .int gng, .int gns, .ref gna, .ref gnb]))], [(q_12, .inr (1, [.ref q_17, .int 0, .int 0, .int s_18.2.1]))], [(q_17, .inl (cy 0, 16, .inl s_18.2.2))]] (0 + 1 + 1) (0 + 4 + 16) [(0, .ref g), (1, .int i1), (2, .ref q_12), (3, .int s_18.1)] 36 []) ?_ _ (0, 0, fun _ => 0) hb_18
      intro s_18 o_18 ho_18 hk_18 hx_18
      refine xr_iload_n (n := 37) (j := 3) C dd_X9_row_1.2.2.2.2.1 rfl rfl ?_
      refine xr_iconst (n := 38) (v := 5) C dd_X9_row_1.2.2.2.2.2.1 rfl rfl ?_
      refine xr_icmp_ge (tgt := 132) (n := 41) C dd_X9_row_1.2.2.2.2.2.2.1 rfl rfl (fun c_25 => ?_) (fun c_25 => ?_)
      · replace ho_18 := yf_t c_25 ho_18
        refine xr_lv (lv' := [(2, .ref q_12)]) [2] rfl ?_
        have e_26 := hx_18 _ (Option.some.inj ho_18).symm
        subst e_26
        exact K_18
      · replace ho_18 := yf_f c_25 ho_18
        refine xr_aload_n (n := 42) (j := 0) C dd_X9_row_1.2.2.2.2.2.2.2.1 rfl rfl ?_
        refine xr_get (n := 45) C 0 rfl rfl 9 (by decide) in_X9 u_1246 rfl (v := .ref gn) rfl dd_X9_row_1.2.2.2.2.2.2.2.2.1 rfl ?_
        refine xr_ifnull (n := 48) C dd_X9_row_1.2.2.2.2.2.2.2.2.2.1 rfl ?_
        refine xr_aload_n (n := 49) (j := 0) C dd_X9_row_1.2.2.2.2.2.2.2.2.2.2.1 rfl rfl ?_
        refine xr_get (n := 52) C 0 rfl rfl 10 (by decide) in_X9 u_1247 rfl (v := .int glr) rfl dd_X9_row_1.2.2.2.2.2.2.2.2.2.2.2.1 rfl ?_
        refine xr_iload_n (n := 53) (j := 1) C dd_X9_row_1.2.2.2.2.2.2.2.2.2.2.2.2.1 rfl rfl ?_
        obtain ⟨x_27, hx_27, ho_18⟩ := yf_b ho_18
        refine xr_callSp (n := 56) (As := [.int glr, .int i1]) (rest := []) C (kX9_has l D cy (i1 := glr) (i2 := i1) hx_27) mX9_has u_1377 u_1378 8 [] [0, 1, 2, 3, 4, 5, 6, 7] rfl (by decide +kernel) rfl rfl rfl rfl (Nat.le_of_ble_eq_true rfl) (Nat.le_of_ble_eq_true rfl) (Nat.le_of_ble_eq_true rfl) (Nat.le_of_ble_eq_true rfl) (Nat.le_of_ble_eq_true rfl) dd_X9_row_1.2.2.2.2.2.2.2.2.2.2.2.2.2.1 rfl (fun _ _ hp => hp.2) (fun v_28 hp_30 => ?_)
        obtain ⟨rfl, -⟩ := hp_30
        refine xr_st (st' := [.int x_27]) rfl ?_
        obtain ⟨r_37, hE_37, ho_18⟩ := yf_b ho_18
        have J_37 : X p l e (yR 7 4 40) s m args below meth c D A H0 5 Q [[(g, .inr (11, [.int x_7.2, .ref gw, .ref gB, .ref gK, .ref gU, .ref gS, .int gbe, .int gwo, .long gta, .ref gn, .int glr, .int glc, .int gti, .int ggo, .ref gR, .int gch, .ref gD]))], [(gB, .inl (cy 4, 5, .inr (.inr (.inr (.inr (yad gBd))))))], xg_rows gBd 5 (cy 2) 5 gBG, [(gK, .inl (cy 4, 5, .inr (.inr (.inr (.inr (yad gKd))))))], xg_rows gKd 5 (cy 2) 5 gKG, [(gn, .inr (10, [.int gnr, .int gnk, .int gnc, .int gng, .int gns, .ref gna, .ref gnb]))], [(q_12, .inr (1, [.ref q_17, .int 0, .int 0, .int s_18.2.1]))], [(q_17, .inl (cy 0, 16, .inl s_18.2.2))]] (0 + 1 + 1) (0 + 4 + 16) [(0, .ref g), (1, .int i1), (2, .ref q_12), (3, .int s_18.1)] 75 [.int r_37] := by
          refine xr_istore (n := 77) C [(4, .int r_37), (0, .ref g), (1, .int i1), (2, .ref q_12), (3, .int s_18.1)] dd_X9_row_2.2.2.2.2.2.2.2.1 (by decide) rfl rfl ?_
          refine xr_aload_n (n := 78) (j := 3) C dd_X9_row_2.2.2.2.2.2.2.2.2.1 rfl rfl ?_
          refine xr_aload_n (n := 79) (j := 1) C dd_X9_row_2.2.2.2.2.2.2.2.2.2.1 rfl rfl ?_
          refine xr_get (n := 82) C 0 rfl rfl 3 (by decide) in_X9 u_1240 rfl (v := .ref gK) rfl dd_X9_row_2.2.2.2.2.2.2.2.2.2.2.1 rfl ?_
          refine xr_iload_n (n := 83) (j := 2) C dd_X9_row_2.2.2.2.2.2.2.2.2.2.2.2.1 rfl rfl ?_
          obtain ⟨g_38, ho_18⟩ := yf_g ho_18
          refine xr_aald (n := 84) C 3 0 rfl 4 rfl rfl g_38 rfl dd_X9_row_2.2.2.2.2.2.2.2.2.2.2.2.2.1 rfl ?_
          refine xr_iload_n (n := 85) (j := 4) C dd_X9_row_2.2.2.2.2.2.2.2.2.2.2.2.2.2.1 rfl rfl ?_
          obtain ⟨g_39, ho_18⟩ := yf_g ho_18
          refine xr_zaldg (n := 86) C 4 rfl i1.toNatClampNeg (ylt g_38) g_39 dd_X9_row_2.2.2.2.2.2.2.2.2.2.2.2.2.2.2.1 rfl ?_
          obtain ⟨r_45, hE_45, ho_18⟩ := yf_b ho_18
          have J_45 : X p l e (yR 7 4 40) s m args below meth c D A H0 5 Q [[(g, .inr (11, [.int x_7.2, .ref gw, .ref gB, .ref gK, .ref gU, .ref gS, .int gbe, .int gwo, .long gta, .ref gn, .int glr, .int glc, .int gti, .int ggo, .ref gR, .int gch, .ref gD]))], [(gB, .inl (cy 4, 5, .inr (.inr (.inr (.inr (yad gBd))))))], xg_rows gBd 5 (cy 2) 5 gBG, [(gK, .inl (cy 4, 5, .inr (.inr (.inr (.inr (yad gKd))))))], xg_rows gKd 5 (cy 2) 5 gKG, [(gn, .inr (10, [.int gnr, .int gnk, .int gnc, .int gng, .int gns, .ref gna, .ref gnb]))], [(q_12, .inr (1, [.ref q_17, .int 0, .int 0, .int s_18.2.1]))], [(q_17, .inl (cy 0, 16, .inl s_18.2.2))]] (0 + 1 + 1) (0 + 4 + 16) [(0, .ref g), (1, .int i1), (2, .ref q_12), (3, .int s_18.1)] 122 [.int r_45, .ref q_12] := by
            obtain ⟨x_46, hx_46, ho_18⟩ := yf_b ho_18
            refine xr_callV (n := 125) (As := [.int r_45]) (rest := []) C (kJ4_append_cf468 l D cy (h := q_12) (hv := q_17) (hc := s_18.2.1) (hf := s_18.2.2) (hn := 16) (i1 := r_45) hx_46) mJ4_append_cf468 u_1554 u_944 u_945 6 rfl rfl 8 [6, 7] [0, 1, 2, 3, 4, 5] rfl (by decide +kernel) rfl rfl rfl rfl (Nat.le_of_ble_eq_true rfl) (Nat.le_of_ble_eq_true rfl) (Nat.le_of_ble_eq_true rfl) (Nat.le_of_ble_eq_true rfl) (Nat.le_of_ble_eq_true rfl) dd_X9_row_4.1 rfl (fun v_47 u_48 hp_49 => ?_)
            obtain ⟨rfl, rfl⟩ := hp_49
            refine xr_perm C 8 [2, 3, 4, 5, 6, 7, 0, 1] [] [[(g, .inr (11, [.int x_7.2, .ref gw, .ref gB, .ref gK, .ref gU, .ref gS, .int gbe, .int gwo, .long gta, .ref gn, .int glr, .int glc, .int gti, .int ggo, .ref gR, .int gch, .ref gD]))], [(gB, .inl (cy 4, 5, .inr (.inr (.inr (.inr (yad gBd))))))], xg_rows gBd 5 (cy 2) 5 gBG, [(gK, .inl (cy 4, 5, .inr (.inr (.inr (.inr (yad gKd))))))], xg_rows gKd 5 (cy 2) 5 gKG, [(gn, .inr (10, [.int gnr, .int gnk, .int gnc, .int gng, .int gns, .ref gna, .ref gnb]))], [(q_12, .inr (1, [.ref q_17, .int 0, .int 0, .int x_46.1]))], [(q_17, .inl (cy 0, 16, .inl x_46.2))]] rfl (by decide +kernel) rfl ?_
            refine xr_st (st' := [.ref q_12]) rfl ?_
            refine xr_pop (n := 126) C dd_X9_row_4.2.1 rfl rfl ?_
            refine xr_iinc (j := 3) (v := s_18.1 + 1) (n := 129) C [(3, .int (s_18.1 + 1)), (0, .ref g), (1, .int i1), (2, .ref q_12)] dd_X9_row_4.2.2.1 rfl rfl (by decide) rfl rfl ?_
            refine xr_goto (tgt := 36) C dd_X9_row_4.2.2.2.1 rfl ?_
            refine xr_lv (lv' := [(0, .ref g), (1, .int i1), (2, .ref q_12), (3, .int (s_18.1 + 1))]) [1, 2, 3, 0] rfl ?_
            exact hk_18 (s_18.1 + 1, x_46.1, x_46.2) (Option.some.inj ho_18).symm
          refine xr_if_eq (tgt := 94) (n := 89) C dd_X9_row_2.2.2.2.2.2.2.2.2.2.2.2.2.2.2.2.1 rfl rfl (fun c_50 => ?_) (fun c_50 => ?_)
          · replace hE_45 := yf_t c_50 hE_45
            refine xr_aload_n (n := 95) (j := 1) C dd_X9_row_3.2.2.1 rfl rfl ?_
            refine xr_get (n := 98) C 0 rfl rfl 2 (by decide) in_X9 u_1239 rfl (v := .ref gB) rfl dd_X9_row_3.2.2.2.1 rfl ?_
            refine xr_iload_n (n := 99) (j := 2) C dd_X9_row_3.2.2.2.2.1 rfl rfl ?_
            obtain ⟨g_51, hE_45⟩ := yf_g hE_45
            refine xr_aald (n := 100) C 1 0 rfl 4 rfl rfl g_51 rfl dd_X9_row_3.2.2.2.2.2.1 rfl ?_
            refine xr_iload_n (n := 101) (j := 4) C dd_X9_row_3.2.2.2.2.2.2.1 rfl rfl ?_
            obtain ⟨g_52, hE_45⟩ := yf_g hE_45
            refine xr_zaldg (n := 102) C 2 rfl i1.toNatClampNeg (ylt g_51) g_52 dd_X9_row_3.2.2.2.2.2.2.2.1 rfl ?_
            refine xr_if_eq (tgt := 110) (n := 105) C dd_X9_row_3.2.2.2.2.2.2.2.2.1 rfl rfl (fun c_53 => ?_) (fun c_53 => ?_)
            · replace hE_45 := yf_t c_53 hE_45
              refine xr_iload (n := 112) (j := 0) C dd_X9_row_3.2.2.2.2.2.2.2.2.2.2.2.1 rfl rfl ?_
              refine xr_if_eq (tgt := 120) (n := 115) C dd_X9_row_3.2.2.2.2.2.2.2.2.2.2.2.2.1 rfl rfl (fun c_54 => ?_) (fun c_54 => ?_)
              · replace hE_45 := yf_t c_54 hE_45
                refine xr_bipush (n := 122) (v := 46) C dd_X9_row_3.2.2.2.2.2.2.2.2.2.2.2.2.2.2.2.1 rfl rfl ?_
                refine xr_lv (lv' := [(0, .ref g), (1, .int i1), (2, .ref q_12), (3, .int s_18.1)]) [1, 2, 3, 4] rfl ?_
                have e_55 := Option.some.inj hE_45
                subst e_55
                exact J_45
              · replace hE_45 := yf_f c_54 hE_45
                refine xr_bipush (n := 117) (v := 111) C dd_X9_row_3.2.2.2.2.2.2.2.2.2.2.2.2.2.1 rfl rfl ?_
                refine xr_goto (tgt := 122) C dd_X9_row_3.2.2.2.2.2.2.2.2.2.2.2.2.2.2.1 rfl ?_
                refine xr_lv (lv' := [(0, .ref g), (1, .int i1), (2, .ref q_12), (3, .int s_18.1)]) [1, 2, 3, 4] rfl ?_
                have e_56 := Option.some.inj hE_45
                subst e_56
                exact J_45
            · replace hE_45 := yf_f c_53 hE_45
              refine xr_bipush (n := 107) (v := 63) C dd_X9_row_3.2.2.2.2.2.2.2.2.2.1 rfl rfl ?_
              refine xr_goto (tgt := 122) C dd_X9_row_3.2.2.2.2.2.2.2.2.2.2.1 rfl ?_
              refine xr_lv (lv' := [(0, .ref g), (1, .int i1), (2, .ref q_12), (3, .int s_18.1)]) [1, 2, 3, 4] rfl ?_
              have e_57 := Option.some.inj hE_45
              subst e_57
              exact J_45
          · replace hE_45 := yf_f c_50 hE_45
            refine xr_bipush (n := 91) (v := 120) C dd_X9_row_3.1 rfl rfl ?_
            refine xr_goto (tgt := 122) C dd_X9_row_3.2.1 rfl ?_
            refine xr_lv (lv' := [(0, .ref g), (1, .int i1), (2, .ref q_12), (3, .int s_18.1)]) [1, 2, 3, 4] rfl ?_
            have e_58 := Option.some.inj hE_45
            subst e_58
            exact J_45
        refine xr_if_eq (tgt := 74) (n := 59) C dd_X9_row_1.2.2.2.2.2.2.2.2.2.2.2.2.2.2.1 rfl rfl (fun c_59 => ?_) (fun c_59 => ?_)
        · replace hE_37 := yf_t c_59 hE_37
          refine xr_iconst (n := 75) (v := 0) C dd_X9_row_2.2.2.2.2.2.2.1 rfl rfl ?_
          have e_60 := Option.some.inj hE_37
          subst e_60
          exact J_37
        · replace hE_37 := yf_f c_59 hE_37
          refine xr_aload_n (n := 60) (j := 0) C dd_X9_row_1.2.2.2.2.2.2.2.2.2.2.2.2.2.2.2.1 rfl rfl ?_
          refine xr_get (n := 63) C 0 rfl rfl 11 (by decide) in_X9 u_1248 rfl (v := .int glc) rfl dd_X9_row_2.1 rfl ?_
          refine xr_iload_n (n := 64) (j := 3) C dd_X9_row_2.2.1 rfl rfl ?_
          obtain ⟨x_61, hx_61, hE_37⟩ := yf_b hE_37
          refine xr_callSp (n := 67) (As := [.int glc, .int s_18.1]) (rest := []) C (kX9_has l D cy (i1 := glc) (i2 := s_18.1) hx_61) mX9_has u_1377 u_1378 8 [] [0, 1, 2, 3, 4, 5, 6, 7] rfl (by decide +kernel) rfl rfl rfl rfl (Nat.le_of_ble_eq_true rfl) (Nat.le_of_ble_eq_true rfl) (Nat.le_of_ble_eq_true rfl) (Nat.le_of_ble_eq_true rfl) (Nat.le_of_ble_eq_true rfl) dd_X9_row_2.2.2.1 rfl (fun _ _ hp => hp.2) (fun v_62 hp_64 => ?_)
          obtain ⟨rfl, -⟩ := hp_64
          refine xr_st (st' := [.int x_61]) rfl ?_
          refine xr_if_eq (tgt := 74) (n := 70) C dd_X9_row_2.2.2.2.1 rfl rfl (fun c_65 => ?_) (fun c_65 => ?_)
          · replace hE_37 := yf_t c_65 hE_37
            refine xr_iconst (n := 75) (v := 0) C dd_X9_row_2.2.2.2.2.2.2.1 rfl rfl ?_
            have e_66 := Option.some.inj hE_37
            subst e_66
            exact J_37
          · replace hE_37 := yf_f c_65 hE_37
            refine xr_iconst (n := 71) (v := 1) C dd_X9_row_2.2.2.2.2.1 rfl rfl ?_
            refine xr_goto (tgt := 75) C dd_X9_row_2.2.2.2.2.2.1 rfl ?_
            have e_67 := Option.some.inj hE_37
            subst e_67
            exact J_37
    · replace hR := yf_f c_11 hR
      refine xr_ldcws (n := 25) (tx := "") C (by decide +kernel) dd_X9_row_0.2.2.2.2.2.2.2.2.2.2.2.2.1 rfl (fun q_68 => ?_)
      obtain rfl := Option.some.inj hR
      exact ret q_68 (Or.inr ⟨_, rfl, q_68, rfl, rfl⟩) (Nat.le_of_ble_eq_true rfl) (Nat.le_of_ble_eq_true rfl) dd_X9_row_0.2.2.2.2.2.2.2.2.2.2.2.2.2.1
  refine xr_if_ne (tgt := 14) (n := 10) C dd_X9_row_0.2.2.2.2.2.1 rfl rfl (fun c_69 => ?_) (fun c_69 => ?_)
  · replace hE_6 := yf_f c_69 hE_6
    refine xr_iconst (n := 15) (v := 0) C dd_X9_row_0.2.2.2.2.2.2.2.2.1 rfl rfl ?_
    have e_70 := Option.some.inj hE_6
    subst e_70
    exact J_6
  · replace hE_6 := yf_t c_69 hE_6
    refine xr_iconst (n := 11) (v := 1) C dd_X9_row_0.2.2.2.2.2.2.1 rfl rfl ?_
    refine xr_goto (tgt := 15) C dd_X9_row_0.2.2.2.2.2.2.2.1 rfl ?_
    have e_71 := Option.some.inj hE_6
    subst e_71
    exact J_6
