theorem u_1500 : Cond.methodLink RX9 231 yX9_off ∈ yU := yu_tables_1_7 4 (by decide +kernel) (by decide +kernel)
theorem u_1502 : Cond.instanceMethod yX9_off ∈ yU := yu_tables_1_7 6 (by decide +kernel) (by decide +kernel)
theorem u_47 : Cond.selects RX9 yX9_off yX9_off ∈ yU := yu 47 (by decide +kernel) (by decide +kernel)
theorem u_1507 : Cond.code yX9_wrong cX9_wrong 4 (some .int) ∈ yU := yu_tables_1_7 11 (by decide +kernel) (by decide +kernel)
theorem u_1504 : Cond.methodLink RX9 238 yX9_wrong ∈ yU := yu_tables_1_7 8 (by decide +kernel) (by decide +kernel)
theorem u_1506 : Cond.instanceMethod yX9_wrong ∈ yU := yu_tables_1_7 10 (by decide +kernel) (by decide +kernel)
theorem u_48 : Cond.selects RX9 yX9_wrong yX9_wrong ∈ yU := yu 48 (by decide +kernel) (by decide +kernel)
theorem u_1499 : Cond.code yX9_severalOr cX9_severalOr 4 (some .int) ∈ yU := yu_tables_1_7 3 (by decide +kernel) (by decide +kernel)
theorem u_1252 : Cond.fieldLink RX9 223 "PulsemeshModel" "areChecked" "Z" ∈ yU := yu_tables_1_5 236 (by decide +kernel) (by decide +kernel)
theorem u_1496 : Cond.methodLink RX9 235 yX9_severalOr ∈ yU := yu_tables_1_7 0 (by decide +kernel) (by decide +kernel)
theorem u_1498 : Cond.instanceMethod yX9_severalOr ∈ yU := yu_tables_1_7 2 (by decide +kernel) (by decide +kernel)
theorem u_46 : Cond.selects RX9 yX9_severalOr yX9_severalOr ∈ yU := yu 46 (by decide +kernel) (by decide +kernel)
theorem u_1495 : Cond.code yX9_check cX9_check 5 (some .int) ∈ yU := yu_tables_1_6 239 (by decide +kernel) (by decide +kernel)
theorem dd_X9_wrong_0 : dk_R cX9_wrong [(0, .iconst (-1), 1), (1, .istore_n 2, 1), (2, .iconst 0, 1), (3, .istore_n 3, 1), (4, .iload_n 3, 1), (5, .iload_n 1, 1), (6, .ifCond .eq 11, 3), (9, .aload_n 0, 1), (10, .getfield 38, 3), (13, .arraylength, 1), (14, .goto 10, 3), (17, .aload_n 0, 1), (18, .getfield 38, 3), (21, .iconst 0, 1), (22, .aaload, 1), (23, .arraylength, 1)] := dk_use _ _ (by decide +kernel)
theorem dd_X9_wrong_1 : dk_R cX9_wrong [(24, .if_icmp .ge 30, 3), (27, .aload_n 0, 1), (28, .iload_n 1, 1), (29, .iload_n 3, 1), (30, .invokevirtual 231, 3), (33, .ifCond .eq 15, 3), (36, .iload_n 2, 1), (37, .iconst (-1), 1), (38, .if_icmp .ne 7, 3), (41, .iload_n 3, 1), (42, .goto 5, 3), (45, .bipush (-2), 2), (47, .istore_n 2, 1), (48, .iinc 3 1, 3), (51, .goto (-47), 3), (54, .iload_n 2, 1)] := dk_use _ _ (by decide +kernel)
theorem dd_X9_wrong_2 : dk_R cX9_wrong [(55, .ireturn, 1)] := dk_use _ _ (by decide +kernel)
def fX9_wrong_i (gRn : Nat) (gRk : Nat) (gRG : Nat → Nat → Int32) (i1 : Int32) : Option (Int32) := ((wl (S := Int32 × Int32) (B := Int32 × Int32) (fun s_1 => ((((if i1 = 0 then (if ¬ ((0 : Int32) < 0 ∨ gRn ≤ (0 : Int32).toNatClampNeg) then some (nI gRk) else none) else some (nI gRn)) : Option (Int32))).bind fun r_4 => (if r_4 ≤ s_1.2 then some (.inr (s_1.1, s_1.2)) else ((fX9_off_i gRn gRk gRG i1 s_1.2).bind fun x_7 => (if x_7 = 0 then some (.inl (s_1.1, s_1.2 + 1)) else (if s_1.1 = (-1) then some (.inl (s_1.2, s_1.2 + 1)) else some (.inl (-2, s_1.2 + 1)))))))) yFuel (-1, 0)).bind fun b_1 => some b_1.1)
abbrev hX9_wrong : Cond := .code yX9_wrong cX9_wrong 4 (some .int)
theorem mX9_wrong : yM yX9_wrong hX9_wrong 1 := ⟨u_1507, u_64, by decide +kernel, by decide +kernel, by decide +kernel⟩
set_option maxHeartbeats 4000000 in
set_option maxRecDepth 100000 in
theorem kX9_wrong_i (l : Launch) (D : va_G) (cy : Nat → ClassId) (g : Nat) (gth : Int32) (gw : Nat) (gB : Nat) (gK : Nat) (gU : Nat) (gS : Nat) (gbe : Int32) (gwo : Int32) (gta : Int64) (glr : Int32) (glc : Int32) (gti : Int32) (ggo : Int32) (gR : Nat) (gch : Int32) (gD : Nat) (gRd : Nat → Nat) (gRn : Nat) (gRk : Nat) (gRG : Nat → Nat → Int32) (i1 : Int32) {res : Int32} (hR : fX9_wrong_i gRn gRk gRG i1 = some res) : YM l D cy yX9_wrong hX9_wrong 2 0 0 [.ref g, .int i1] [[(g, .inr (11, [.int gth, .ref gw, .ref gB, .ref gK, .ref gU, .ref gS, .int gbe, .int gwo, .long gta, .null, .int glr, .int glc, .int gti, .int ggo, .ref gR, .int gch, .ref gD]))], [(gR, .inl (cy 3, gRn, .inr (.inr (.inr (.inr (yad gRd))))))], xg_rows gRd gRn (cy 1) gRk gRG] (fun v u => v = some (.int res) ∧ u = [[(g, .inr (11, [.int gth, .ref gw, .ref gB, .ref gK, .ref gU, .ref gS, .int gbe, .int gwo, .long gta, .null, .int glr, .int glc, .int gti, .int ggo, .ref gR, .int gch, .ref gD]))], [(gR, .inl (cy 3, gRn, .inr (.inr (.inr (.inr (yad gRd))))))], xg_rows gRd gRn (cy 1) gRk gRG]) := by
  unfold fX9_wrong_i at hR
  refine YM.ofI (cc := cX9_wrong) (maxL := 4) (ret := (some .int)) (by decide +kernel) rfl (Nat.le_of_ble_eq_true rfl) [(0, .ref g), (1, .int i1)] rfl rfl (fun p e s m args below meth c A H0 Q C hnm ret => ?_)
  refine xr_iconst (n := 1) (v := -1) C dd_X9_wrong_0.1 rfl rfl ?_
  refine xr_istore_n (n := 2) C [(2, .int (-1)), (0, .ref g), (1, .int i1)] dd_X9_wrong_0.2.1 (by decide) rfl rfl ?_
  refine xr_iconst (n := 3) (v := 0) C dd_X9_wrong_0.2.2.1 rfl rfl ?_
  refine xr_istore_n (n := 4) C [(3, .int 0), (2, .int (-1)), (0, .ref g), (1, .int i1)] dd_X9_wrong_0.2.2.2.1 (by decide) rfl rfl ?_
  refine xr_lv (lv' := [(0, .ref g), (1, .int i1), (2, .int (-1)), (3, .int 0)]) [2, 3, 1, 0] rfl ?_
  obtain ⟨b_1, hb_1, hR⟩ := yf_b hR
  have K_1 : X p l e (yR 2 0 0) s m args below meth c D A H0 4 Q [[(g, .inr (11, [.int gth, .ref gw, .ref gB, .ref gK, .ref gU, .ref gS, .int gbe, .int gwo, .long gta, .null, .int glr, .int glc, .int gti, .int ggo, .ref gR, .int gch, .ref gD]))], [(gR, .inl (cy 3, gRn, .inr (.inr (.inr (.inr (yad gRd))))))], xg_rows gRd gRn (cy 1) gRk gRG] 0 0 [(2, .int b_1.1)] 54 [] := by
    refine xr_iload_n (n := 55) (j := 0) C dd_X9_wrong_1.2.2.2.2.2.2.2.2.2.2.2.2.2.2.2.1 rfl rfl ?_
    obtain rfl := Option.some.inj hR
    exact ret b_1.1 ⟨rfl, rfl⟩ (Nat.le_of_ble_eq_true rfl) (Nat.le_of_ble_eq_true rfl) dd_X9_wrong_2.1
  refine y_loop (P := fun (s_1 : Int32 × Int32) => X p l e (yR 2 0 0) s m args below meth c D A H0 4 Q [[(g, .inr (11, [.int gth, .ref gw, .ref gB, .ref gK, .ref gU, .ref gS, .int gbe, .int gwo, .long gta, .null, .int glr, .int glc, .int gti, .int ggo, .ref gR, .int gch, .ref gD]))], [(gR, .inl (cy 3, gRn, .inr (.inr (.inr (.inr (yad gRd))))))], xg_rows gRd gRn (cy 1) gRk gRG] 0 0 [(0, .ref g), (1, .int i1), (2, .int s_1.1), (3, .int s_1.2)] 4 []) ?_ _ (-1, 0) hb_1
  intro s_1 o_1 ho_1 hk_1 hx_1
  refine xr_iload_n (n := 5) (j := 3) C dd_X9_wrong_0.2.2.2.2.1 rfl rfl ?_
  refine xr_iload_n (n := 6) (j := 1) C dd_X9_wrong_0.2.2.2.2.2.1 rfl rfl ?_
  obtain ⟨r_4, hE_4, ho_1⟩ := yf_b ho_1
  have J_4 : X p l e (yR 2 0 0) s m args below meth c D A H0 4 Q [[(g, .inr (11, [.int gth, .ref gw, .ref gB, .ref gK, .ref gU, .ref gS, .int gbe, .int gwo, .long gta, .null, .int glr, .int glc, .int gti, .int ggo, .ref gR, .int gch, .ref gD]))], [(gR, .inl (cy 3, gRn, .inr (.inr (.inr (.inr (yad gRd))))))], xg_rows gRd gRn (cy 1) gRk gRG] 0 0 [(0, .ref g), (1, .int i1), (2, .int s_1.1), (3, .int s_1.2)] 24 [.int r_4, .int s_1.2] := by
    refine xr_icmp_ge (tgt := 54) (n := 27) C dd_X9_wrong_1.1 rfl rfl (fun c_5 => ?_) (fun c_5 => ?_)
    · replace ho_1 := yf_t c_5 ho_1
      refine xr_lv (lv' := [(2, .int s_1.1)]) [2] rfl ?_
      have e_6 := hx_1 _ (Option.some.inj ho_1).symm
      subst e_6
      exact K_1
    · replace ho_1 := yf_f c_5 ho_1
      refine xr_aload_n (n := 28) (j := 0) C dd_X9_wrong_1.2.1 rfl rfl ?_
      refine xr_iload_n (n := 29) (j := 1) C dd_X9_wrong_1.2.2.1 rfl rfl ?_
      refine xr_iload_n (n := 30) (j := 3) C dd_X9_wrong_1.2.2.2.1 rfl rfl ?_
      obtain ⟨x_7, hx_7, ho_1⟩ := yf_b ho_1
      refine xr_callVp (n := 33) (As := [.int i1, .int s_1.2]) (rest := []) C (kX9_off_i l D cy (g := g) (gth := gth) (gw := gw) (gB := gB) (gK := gK) (gU := gU) (gS := gS) (gbe := gbe) (gwo := gwo) (gta := gta) (glr := glr) (glc := glc) (gti := gti) (ggo := ggo) (gR := gR) (gch := gch) (gD := gD) (gRd := gRd) (gRn := gRn) (gRk := gRk) (gRG := gRG) (i1 := i1) (i2 := s_1.2) hx_7) mX9_off u_1500 u_1502 u_47 0 rfl rfl 3 [0, 1, 2] [] rfl (by decide +kernel) rfl rfl rfl rfl (Nat.le_of_ble_eq_true rfl) (Nat.le_of_ble_eq_true rfl) (Nat.le_of_ble_eq_true rfl) (Nat.le_of_ble_eq_true rfl) (Nat.le_of_ble_eq_true rfl) dd_X9_wrong_1.2.2.2.2.1 rfl (fun _ _ hp => hp.2) (fun v_8 hp_10 => ?_)
      obtain ⟨rfl, -⟩ := hp_10
      refine xr_st (st' := [.int x_7]) rfl ?_
      refine xr_if_eq (tgt := 48) (n := 36) C dd_X9_wrong_1.2.2.2.2.2.1 rfl rfl (fun c_11 => ?_) (fun c_11 => ?_)
      · replace ho_1 := yf_t c_11 ho_1
        refine xr_iinc (j := 3) (v := s_1.2 + 1) (n := 51) C [(3, .int (s_1.2 + 1)), (0, .ref g), (1, .int i1), (2, .int s_1.1)] dd_X9_wrong_1.2.2.2.2.2.2.2.2.2.2.2.2.2.1 rfl rfl (by decide) rfl rfl ?_
        refine xr_goto (tgt := 4) C dd_X9_wrong_1.2.2.2.2.2.2.2.2.2.2.2.2.2.2.1 rfl ?_
        refine xr_lv (lv' := [(0, .ref g), (1, .int i1), (2, .int s_1.1), (3, .int (s_1.2 + 1))]) [1, 2, 3, 0] rfl ?_
        exact hk_1 (s_1.1, s_1.2 + 1) (Option.some.inj ho_1).symm
      · replace ho_1 := yf_f c_11 ho_1
        refine xr_iload_n (n := 37) (j := 2) C dd_X9_wrong_1.2.2.2.2.2.2.1 rfl rfl ?_
        refine xr_iconst (n := 38) (v := -1) C dd_X9_wrong_1.2.2.2.2.2.2.2.1 rfl rfl ?_
        refine xr_icmp_ne (tgt := 45) (n := 41) C dd_X9_wrong_1.2.2.2.2.2.2.2.2.1 rfl rfl (fun c_12 => ?_) (fun c_12 => ?_)
        · replace ho_1 := yf_f c_12 ho_1
          refine xr_bipush (n := 47) (v := -2) C dd_X9_wrong_1.2.2.2.2.2.2.2.2.2.2.2.1 rfl rfl ?_
          refine xr_istore_n (n := 48) C [(2, .int (-2)), (0, .ref g), (1, .int i1), (3, .int s_1.2)] dd_X9_wrong_1.2.2.2.2.2.2.2.2.2.2.2.2.1 (by decide) rfl rfl ?_
          refine xr_iinc (j := 3) (v := s_1.2 + 1) (n := 51) C [(3, .int (s_1.2 + 1)), (2, .int (-2)), (0, .ref g), (1, .int i1)] dd_X9_wrong_1.2.2.2.2.2.2.2.2.2.2.2.2.2.1 rfl rfl (by decide) rfl rfl ?_
          refine xr_goto (tgt := 4) C dd_X9_wrong_1.2.2.2.2.2.2.2.2.2.2.2.2.2.2.1 rfl ?_
          refine xr_lv (lv' := [(0, .ref g), (1, .int i1), (2, .int (-2)), (3, .int (s_1.2 + 1))]) [2, 3, 1, 0] rfl ?_
          exact hk_1 (-2, s_1.2 + 1) (Option.some.inj ho_1).symm
        · replace ho_1 := yf_t c_12 ho_1
          refine xr_iload_n (n := 42) (j := 3) C dd_X9_wrong_1.2.2.2.2.2.2.2.2.2.1 rfl rfl ?_
          refine xr_goto (tgt := 47) C dd_X9_wrong_1.2.2.2.2.2.2.2.2.2.2.1 rfl ?_
          refine xr_istore_n (n := 48) C [(2, .int s_1.2), (0, .ref g), (1, .int i1), (3, .int s_1.2)] dd_X9_wrong_1.2.2.2.2.2.2.2.2.2.2.2.2.1 (by decide) rfl rfl ?_
          refine xr_iinc (j := 3) (v := s_1.2 + 1) (n := 51) C [(3, .int (s_1.2 + 1)), (2, .int s_1.2), (0, .ref g), (1, .int i1)] dd_X9_wrong_1.2.2.2.2.2.2.2.2.2.2.2.2.2.1 rfl rfl (by decide) rfl rfl ?_
          refine xr_goto (tgt := 4) C dd_X9_wrong_1.2.2.2.2.2.2.2.2.2.2.2.2.2.2.1 rfl ?_
          refine xr_lv (lv' := [(0, .ref g), (1, .int i1), (2, .int s_1.2), (3, .int (s_1.2 + 1))]) [2, 3, 1, 0] rfl ?_
          exact hk_1 (s_1.2, s_1.2 + 1) (Option.some.inj ho_1).symm
  refine xr_if_eq (tgt := 17) (n := 9) C dd_X9_wrong_0.2.2.2.2.2.2.1 rfl rfl (fun c_13 => ?_) (fun c_13 => ?_)
  · replace hE_4 := yf_t c_13 hE_4
    refine xr_aload_n (n := 18) (j := 0) C dd_X9_wrong_0.2.2.2.2.2.2.2.2.2.2.2.1 rfl rfl ?_
    refine xr_get (n := 21) C 0 rfl rfl 14 (by decide) in_X9 u_1251 rfl (v := .ref gR) rfl dd_X9_wrong_0.2.2.2.2.2.2.2.2.2.2.2.2.1 rfl ?_
    refine xr_iconst (n := 22) (v := 0) C dd_X9_wrong_0.2.2.2.2.2.2.2.2.2.2.2.2.2.1 rfl rfl ?_
    obtain ⟨g_14, hE_4⟩ := yf_g hE_4
    refine xr_aald (n := 23) C 1 0 rfl 3 rfl rfl g_14 rfl dd_X9_wrong_0.2.2.2.2.2.2.2.2.2.2.2.2.2.2.1 rfl ?_
    refine xr_aleng (n := 24) C 2 1 rfl ((0 : Int32).toNatClampNeg) (ylt g_14) rfl dd_X9_wrong_0.2.2.2.2.2.2.2.2.2.2.2.2.2.2.2.1 rfl ?_
    have e_15 := Option.some.inj hE_4
    subst e_15
    exact J_4
  · replace hE_4 := yf_f c_13 hE_4
    refine xr_aload_n (n := 10) (j := 0) C dd_X9_wrong_0.2.2.2.2.2.2.2.1 rfl rfl ?_
    refine xr_get (n := 13) C 0 rfl rfl 14 (by decide) in_X9 u_1251 rfl (v := .ref gR) rfl dd_X9_wrong_0.2.2.2.2.2.2.2.2.1 rfl ?_
    refine xr_alen (n := 14) C 1 0 rfl 3 rfl rfl dd_X9_wrong_0.2.2.2.2.2.2.2.2.2.1 rfl ?_
    refine xr_goto (tgt := 24) C dd_X9_wrong_0.2.2.2.2.2.2.2.2.2.2.1 rfl ?_
    have e_16 := Option.some.inj hE_4
    subst e_16
    exact J_4
def fX9_wrong_r (gRn : Nat) (gRk : Nat) (gRG : Nat → Nat → Int32) (i1 : Int32) : Option (Int32) := ((wl (S := Int32 × Int32) (B := Int32 × Int32) (fun s_1 => ((((if i1 = 0 then (if ¬ ((0 : Int32) < 0 ∨ gRn ≤ (0 : Int32).toNatClampNeg) then some (nI gRk) else none) else some (nI gRn)) : Option (Int32))).bind fun r_4 => (if r_4 ≤ s_1.2 then some (.inr (s_1.1, s_1.2)) else ((fX9_off_r gRn gRk gRG i1 s_1.2).bind fun x_7 => (if x_7 = 0 then some (.inl (s_1.1, s_1.2 + 1)) else (if s_1.1 = (-1) then some (.inl (s_1.2, s_1.2 + 1)) else some (.inl (-2, s_1.2 + 1)))))))) yFuel (-1, 0)).bind fun b_1 => some b_1.1)
set_option maxHeartbeats 4000000 in
set_option maxRecDepth 100000 in
theorem kX9_wrong_r (l : Launch) (D : va_G) (cy : Nat → ClassId) (g : Nat) (gth : Int32) (gw : Nat) (gB : Nat) (gK : Nat) (gU : Nat) (gS : Nat) (gbe : Int32) (gwo : Int32) (gta : Int64) (gn : Nat) (glr : Int32) (glc : Int32) (gti : Int32) (ggo : Int32) (gR : Nat) (gch : Int32) (gD : Nat) (gRd : Nat → Nat) (gRn : Nat) (gRk : Nat) (gRG : Nat → Nat → Int32) (i1 : Int32) {res : Int32} (hR : fX9_wrong_r gRn gRk gRG i1 = some res) : YM l D cy yX9_wrong hX9_wrong 2 0 0 [.ref g, .int i1] [[(g, .inr (11, [.int gth, .ref gw, .ref gB, .ref gK, .ref gU, .ref gS, .int gbe, .int gwo, .long gta, .ref gn, .int glr, .int glc, .int gti, .int ggo, .ref gR, .int gch, .ref gD]))], [(gR, .inl (cy 3, gRn, .inr (.inr (.inr (.inr (yad gRd))))))], xg_rows gRd gRn (cy 1) gRk gRG] (fun v u => v = some (.int res) ∧ u = [[(g, .inr (11, [.int gth, .ref gw, .ref gB, .ref gK, .ref gU, .ref gS, .int gbe, .int gwo, .long gta, .ref gn, .int glr, .int glc, .int gti, .int ggo, .ref gR, .int gch, .ref gD]))], [(gR, .inl (cy 3, gRn, .inr (.inr (.inr (.inr (yad gRd))))))], xg_rows gRd gRn (cy 1) gRk gRG]) := by
  unfold fX9_wrong_r at hR
  refine YM.ofI (cc := cX9_wrong) (maxL := 4) (ret := (some .int)) (by decide +kernel) rfl (Nat.le_of_ble_eq_true rfl) [(0, .ref g), (1, .int i1)] rfl rfl (fun p e s m args below meth c A H0 Q C hnm ret => ?_)
  refine xr_iconst (n := 1) (v := -1) C dd_X9_wrong_0.1 rfl rfl ?_
  refine xr_istore_n (n := 2) C [(2, .int (-1)), (0, .ref g), (1, .int i1)] dd_X9_wrong_0.2.1 (by decide) rfl rfl ?_
  refine xr_iconst (n := 3) (v := 0) C dd_X9_wrong_0.2.2.1 rfl rfl ?_
  refine xr_istore_n (n := 4) C [(3, .int 0), (2, .int (-1)), (0, .ref g), (1, .int i1)] dd_X9_wrong_0.2.2.2.1 (by decide) rfl rfl ?_
  refine xr_lv (lv' := [(0, .ref g), (1, .int i1), (2, .int (-1)), (3, .int 0)]) [2, 3, 1, 0] rfl ?_
  obtain ⟨b_1, hb_1, hR⟩ := yf_b hR
  have K_1 : X p l e (yR 2 0 0) s m args below meth c D A H0 4 Q [[(g, .inr (11, [.int gth, .ref gw, .ref gB, .ref gK, .ref gU, .ref gS, .int gbe, .int gwo, .long gta, .ref gn, .int glr, .int glc, .int gti, .int ggo, .ref gR, .int gch, .ref gD]))], [(gR, .inl (cy 3, gRn, .inr (.inr (.inr (.inr (yad gRd))))))], xg_rows gRd gRn (cy 1) gRk gRG] 0 0 [(2, .int b_1.1)] 54 [] := by
    refine xr_iload_n (n := 55) (j := 0) C dd_X9_wrong_1.2.2.2.2.2.2.2.2.2.2.2.2.2.2.2.1 rfl rfl ?_
    obtain rfl := Option.some.inj hR
    exact ret b_1.1 ⟨rfl, rfl⟩ (Nat.le_of_ble_eq_true rfl) (Nat.le_of_ble_eq_true rfl) dd_X9_wrong_2.1
  refine y_loop (P := fun (s_1 : Int32 × Int32) => X p l e (yR 2 0 0) s m args below meth c D A H0 4 Q [[(g, .inr (11, [.int gth, .ref gw, .ref gB, .ref gK, .ref gU, .ref gS, .int gbe, .int gwo, .long gta, .ref gn, .int glr, .int glc, .int gti, .int ggo, .ref gR, .int gch, .ref gD]))], [(gR, .inl (cy 3, gRn, .inr (.inr (.inr (.inr (yad gRd))))))], xg_rows gRd gRn (cy 1) gRk gRG] 0 0 [(0, .ref g), (1, .int i1), (2, .int s_1.1), (3, .int s_1.2)] 4 []) ?_ _ (-1, 0) hb_1
  intro s_1 o_1 ho_1 hk_1 hx_1
  refine xr_iload_n (n := 5) (j := 3) C dd_X9_wrong_0.2.2.2.2.1 rfl rfl ?_
  refine xr_iload_n (n := 6) (j := 1) C dd_X9_wrong_0.2.2.2.2.2.1 rfl rfl ?_
  obtain ⟨r_4, hE_4, ho_1⟩ := yf_b ho_1
  have J_4 : X p l e (yR 2 0 0) s m args below meth c D A H0 4 Q [[(g, .inr (11, [.int gth, .ref gw, .ref gB, .ref gK, .ref gU, .ref gS, .int gbe, .int gwo, .long gta, .ref gn, .int glr, .int glc, .int gti, .int ggo, .ref gR, .int gch, .ref gD]))], [(gR, .inl (cy 3, gRn, .inr (.inr (.inr (.inr (yad gRd))))))], xg_rows gRd gRn (cy 1) gRk gRG] 0 0 [(0, .ref g), (1, .int i1), (2, .int s_1.1), (3, .int s_1.2)] 24 [.int r_4, .int s_1.2] := by
    refine xr_icmp_ge (tgt := 54) (n := 27) C dd_X9_wrong_1.1 rfl rfl (fun c_5 => ?_) (fun c_5 => ?_)
    · replace ho_1 := yf_t c_5 ho_1
      refine xr_lv (lv' := [(2, .int s_1.1)]) [2] rfl ?_
      have e_6 := hx_1 _ (Option.some.inj ho_1).symm
      subst e_6
      exact K_1
    · replace ho_1 := yf_f c_5 ho_1
      refine xr_aload_n (n := 28) (j := 0) C dd_X9_wrong_1.2.1 rfl rfl ?_
      refine xr_iload_n (n := 29) (j := 1) C dd_X9_wrong_1.2.2.1 rfl rfl ?_
      refine xr_iload_n (n := 30) (j := 3) C dd_X9_wrong_1.2.2.2.1 rfl rfl ?_
      obtain ⟨x_7, hx_7, ho_1⟩ := yf_b ho_1
      refine xr_callVp (n := 33) (As := [.int i1, .int s_1.2]) (rest := []) C (kX9_off_r l D cy (g := g) (gth := gth) (gw := gw) (gB := gB) (gK := gK) (gU := gU) (gS := gS) (gbe := gbe) (gwo := gwo) (gta := gta) (gn := gn) (glr := glr) (glc := glc) (gti := gti) (ggo := ggo) (gR := gR) (gch := gch) (gD := gD) (gRd := gRd) (gRn := gRn) (gRk := gRk) (gRG := gRG) (i1 := i1) (i2 := s_1.2) hx_7) mX9_off u_1500 u_1502 u_47 0 rfl rfl 3 [0, 1, 2] [] rfl (by decide +kernel) rfl rfl rfl rfl (Nat.le_of_ble_eq_true rfl) (Nat.le_of_ble_eq_true rfl) (Nat.le_of_ble_eq_true rfl) (Nat.le_of_ble_eq_true rfl) (Nat.le_of_ble_eq_true rfl) dd_X9_wrong_1.2.2.2.2.1 rfl (fun _ _ hp => hp.2) (fun v_8 hp_10 => ?_)
      obtain ⟨rfl, -⟩ := hp_10
      refine xr_st (st' := [.int x_7]) rfl ?_
      refine xr_if_eq (tgt := 48) (n := 36) C dd_X9_wrong_1.2.2.2.2.2.1 rfl rfl (fun c_11 => ?_) (fun c_11 => ?_)
      · replace ho_1 := yf_t c_11 ho_1
        refine xr_iinc (j := 3) (v := s_1.2 + 1) (n := 51) C [(3, .int (s_1.2 + 1)), (0, .ref g), (1, .int i1), (2, .int s_1.1)] dd_X9_wrong_1.2.2.2.2.2.2.2.2.2.2.2.2.2.1 rfl rfl (by decide) rfl rfl ?_
        refine xr_goto (tgt := 4) C dd_X9_wrong_1.2.2.2.2.2.2.2.2.2.2.2.2.2.2.1 rfl ?_
        refine xr_lv (lv' := [(0, .ref g), (1, .int i1), (2, .int s_1.1), (3, .int (s_1.2 + 1))]) [1, 2, 3, 0] rfl ?_
        exact hk_1 (s_1.1, s_1.2 + 1) (Option.some.inj ho_1).symm
      · replace ho_1 := yf_f c_11 ho_1
        refine xr_iload_n (n := 37) (j := 2) C dd_X9_wrong_1.2.2.2.2.2.2.1 rfl rfl ?_
        refine xr_iconst (n := 38) (v := -1) C dd_X9_wrong_1.2.2.2.2.2.2.2.1 rfl rfl ?_
        refine xr_icmp_ne (tgt := 45) (n := 41) C dd_X9_wrong_1.2.2.2.2.2.2.2.2.1 rfl rfl (fun c_12 => ?_) (fun c_12 => ?_)
        · replace ho_1 := yf_f c_12 ho_1
          refine xr_bipush (n := 47) (v := -2) C dd_X9_wrong_1.2.2.2.2.2.2.2.2.2.2.2.1 rfl rfl ?_
          refine xr_istore_n (n := 48) C [(2, .int (-2)), (0, .ref g), (1, .int i1), (3, .int s_1.2)] dd_X9_wrong_1.2.2.2.2.2.2.2.2.2.2.2.2.1 (by decide) rfl rfl ?_
          refine xr_iinc (j := 3) (v := s_1.2 + 1) (n := 51) C [(3, .int (s_1.2 + 1)), (2, .int (-2)), (0, .ref g), (1, .int i1)] dd_X9_wrong_1.2.2.2.2.2.2.2.2.2.2.2.2.2.1 rfl rfl (by decide) rfl rfl ?_
          refine xr_goto (tgt := 4) C dd_X9_wrong_1.2.2.2.2.2.2.2.2.2.2.2.2.2.2.1 rfl ?_
          refine xr_lv (lv' := [(0, .ref g), (1, .int i1), (2, .int (-2)), (3, .int (s_1.2 + 1))]) [2, 3, 1, 0] rfl ?_
          exact hk_1 (-2, s_1.2 + 1) (Option.some.inj ho_1).symm
        · replace ho_1 := yf_t c_12 ho_1
          refine xr_iload_n (n := 42) (j := 3) C dd_X9_wrong_1.2.2.2.2.2.2.2.2.2.1 rfl rfl ?_
          refine xr_goto (tgt := 47) C dd_X9_wrong_1.2.2.2.2.2.2.2.2.2.2.1 rfl ?_
          refine xr_istore_n (n := 48) C [(2, .int s_1.2), (0, .ref g), (1, .int i1), (3, .int s_1.2)] dd_X9_wrong_1.2.2.2.2.2.2.2.2.2.2.2.2.1 (by decide) rfl rfl ?_
          refine xr_iinc (j := 3) (v := s_1.2 + 1) (n := 51) C [(3, .int (s_1.2 + 1)), (2, .int s_1.2), (0, .ref g), (1, .int i1)] dd_X9_wrong_1.2.2.2.2.2.2.2.2.2.2.2.2.2.1 rfl rfl (by decide) rfl rfl ?_
          refine xr_goto (tgt := 4) C dd_X9_wrong_1.2.2.2.2.2.2.2.2.2.2.2.2.2.2.1 rfl ?_
          refine xr_lv (lv' := [(0, .ref g), (1, .int i1), (2, .int s_1.2), (3, .int (s_1.2 + 1))]) [2, 3, 1, 0] rfl ?_
          exact hk_1 (s_1.2, s_1.2 + 1) (Option.some.inj ho_1).symm
  refine xr_if_eq (tgt := 17) (n := 9) C dd_X9_wrong_0.2.2.2.2.2.2.1 rfl rfl (fun c_13 => ?_) (fun c_13 => ?_)
  · replace hE_4 := yf_t c_13 hE_4
    refine xr_aload_n (n := 18) (j := 0) C dd_X9_wrong_0.2.2.2.2.2.2.2.2.2.2.2.1 rfl rfl ?_
    refine xr_get (n := 21) C 0 rfl rfl 14 (by decide) in_X9 u_1251 rfl (v := .ref gR) rfl dd_X9_wrong_0.2.2.2.2.2.2.2.2.2.2.2.2.1 rfl ?_
    refine xr_iconst (n := 22) (v := 0) C dd_X9_wrong_0.2.2.2.2.2.2.2.2.2.2.2.2.2.1 rfl rfl ?_
    obtain ⟨g_14, hE_4⟩ := yf_g hE_4
    refine xr_aald (n := 23) C 1 0 rfl 3 rfl rfl g_14 rfl dd_X9_wrong_0.2.2.2.2.2.2.2.2.2.2.2.2.2.2.1 rfl ?_
    refine xr_aleng (n := 24) C 2 1 rfl ((0 : Int32).toNatClampNeg) (ylt g_14) rfl dd_X9_wrong_0.2.2.2.2.2.2.2.2.2.2.2.2.2.2.2.1 rfl ?_
    have e_15 := Option.some.inj hE_4
    subst e_15
    exact J_4
  · replace hE_4 := yf_f c_13 hE_4
    refine xr_aload_n (n := 10) (j := 0) C dd_X9_wrong_0.2.2.2.2.2.2.2.1 rfl rfl ?_
    refine xr_get (n := 13) C 0 rfl rfl 14 (by decide) in_X9 u_1251 rfl (v := .ref gR) rfl dd_X9_wrong_0.2.2.2.2.2.2.2.2.1 rfl ?_
    refine xr_alen (n := 14) C 1 0 rfl 3 rfl rfl dd_X9_wrong_0.2.2.2.2.2.2.2.2.2.1 rfl ?_
    refine xr_goto (tgt := 24) C dd_X9_wrong_0.2.2.2.2.2.2.2.2.2.2.1 rfl ?_
    have e_16 := Option.some.inj hE_4
    subst e_16
    exact J_4
theorem dd_X9_severalOr_0 : dk_R cX9_severalOr [(0, .iconst 0, 1), (1, .istore_n 2, 1), (2, .iconst 0, 1), (3, .istore_n 3, 1), (4, .iload_n 3, 1), (5, .iload_n 1, 1), (6, .ifCond .eq 11, 3), (9, .aload_n 0, 1), (10, .getfield 38, 3), (13, .arraylength, 1), (14, .goto 10, 3), (17, .aload_n 0, 1), (18, .getfield 38, 3), (21, .iconst 0, 1), (22, .aaload, 1), (23, .arraylength, 1)] := dk_use _ _ (by decide +kernel)
theorem dd_X9_severalOr_1 : dk_R cX9_severalOr [(24, .if_icmp .ge 29, 3), (27, .iload_n 2, 1), (28, .aload_n 0, 1), (29, .iload_n 1, 1), (30, .iload_n 3, 1), (31, .invokevirtual 231, 3), (34, .ifCond .eq 7, 3), (37, .iconst 1, 1), (38, .goto 4, 3), (41, .iconst 0, 1), (42, .invokestatic 71, 3), (45, .iadd, 1), (46, .istore_n 2, 1), (47, .iinc 3 1, 3), (50, .goto (-46), 3), (53, .iload_n 2, 1)] := dk_use _ _ (by decide +kernel)
theorem dd_X9_severalOr_2 : dk_R cX9_severalOr [(54, .iconst 1, 1), (55, .if_icmp .le 8, 3), (58, .bipush (-2), 2), (60, .goto 8, 3), (63, .aload_n 0, 1), (64, .iload_n 1, 1), (65, .invokevirtual 238, 3), (68, .ireturn, 1)] := dk_use _ _ (by decide +kernel)
def fX9_severalOr_i (gRn : Nat) (gRk : Nat) (gRG : Nat → Nat → Int32) (i1 : Int32) : Option (Int32) := ((wl (S := Int32 × Int32) (B := Int32 × Int32) (fun s_1 => ((((if i1 = 0 then (if ¬ ((0 : Int32) < 0 ∨ gRn ≤ (0 : Int32).toNatClampNeg) then some (nI gRk) else none) else some (nI gRn)) : Option (Int32))).bind fun r_9 => (if r_9 ≤ s_1.2 then some (.inr (s_1.1, s_1.2)) else ((fX9_off_i gRn gRk gRG i1 s_1.2).bind fun x_12 => ((((if x_12 = 0 then some 0 else some 1) : Option (Int32))).bind fun r_17 => ((fX9_one r_17).bind fun x_18 => some (.inl (s_1.1 + x_18, s_1.2 + 1)))))))) yFuel (0, 0)).bind fun b_1 => (if b_1.1 ≤ 1 then ((fX9_wrong_i gRn gRk gRG i1).bind fun x_3 => some x_3) else some (-2)))
abbrev hX9_severalOr : Cond := .code yX9_severalOr cX9_severalOr 4 (some .int)
theorem mX9_severalOr : yM yX9_severalOr hX9_severalOr 1 := ⟨u_1499, u_64, by decide +kernel, by decide +kernel, by decide +kernel⟩
set_option maxHeartbeats 4000000 in
set_option maxRecDepth 100000 in
theorem kX9_severalOr_i (l : Launch) (D : va_G) (cy : Nat → ClassId) (g : Nat) (gth : Int32) (gw : Nat) (gB : Nat) (gK : Nat) (gU : Nat) (gS : Nat) (gbe : Int32) (gwo : Int32) (gta : Int64) (glr : Int32) (glc : Int32) (gti : Int32) (ggo : Int32) (gR : Nat) (gch : Int32) (gD : Nat) (gRd : Nat → Nat) (gRn : Nat) (gRk : Nat) (gRG : Nat → Nat → Int32) (i1 : Int32) {res : Int32} (hR : fX9_severalOr_i gRn gRk gRG i1 = some res) : YM l D cy yX9_severalOr hX9_severalOr 3 0 0 [.ref g, .int i1] [[(g, .inr (11, [.int gth, .ref gw, .ref gB, .ref gK, .ref gU, .ref gS, .int gbe, .int gwo, .long gta, .null, .int glr, .int glc, .int gti, .int ggo, .ref gR, .int gch, .ref gD]))], [(gR, .inl (cy 3, gRn, .inr (.inr (.inr (.inr (yad gRd))))))], xg_rows gRd gRn (cy 1) gRk gRG] (fun v u => v = some (.int res) ∧ u = [[(g, .inr (11, [.int gth, .ref gw, .ref gB, .ref gK, .ref gU, .ref gS, .int gbe, .int gwo, .long gta, .null, .int glr, .int glc, .int gti, .int ggo, .ref gR, .int gch, .ref gD]))], [(gR, .inl (cy 3, gRn, .inr (.inr (.inr (.inr (yad gRd))))))], xg_rows gRd gRn (cy 1) gRk gRG]) := by
  unfold fX9_severalOr_i at hR
  refine YM.ofI (cc := cX9_severalOr) (maxL := 4) (ret := (some .int)) (by decide +kernel) rfl (Nat.le_of_ble_eq_true rfl) [(0, .ref g), (1, .int i1)] rfl rfl (fun p e s m args below meth c A H0 Q C hnm ret => ?_)
  refine xr_iconst (n := 1) (v := 0) C dd_X9_severalOr_0.1 rfl rfl ?_
  refine xr_istore_n (n := 2) C [(2, .int 0), (0, .ref g), (1, .int i1)] dd_X9_severalOr_0.2.1 (by decide) rfl rfl ?_
  refine xr_iconst (n := 3) (v := 0) C dd_X9_severalOr_0.2.2.1 rfl rfl ?_
  refine xr_istore_n (n := 4) C [(3, .int 0), (2, .int 0), (0, .ref g), (1, .int i1)] dd_X9_severalOr_0.2.2.2.1 (by decide) rfl rfl ?_
  refine xr_lv (lv' := [(0, .ref g), (1, .int i1), (2, .int 0), (3, .int 0)]) [2, 3, 1, 0] rfl ?_
  obtain ⟨b_1, hb_1, hR⟩ := yf_b hR
  have K_1 : X p l e (yR 3 0 0) s m args below meth c D A H0 4 Q [[(g, .inr (11, [.int gth, .ref gw, .ref gB, .ref gK, .ref gU, .ref gS, .int gbe, .int gwo, .long gta, .null, .int glr, .int glc, .int gti, .int ggo, .ref gR, .int gch, .ref gD]))], [(gR, .inl (cy 3, gRn, .inr (.inr (.inr (.inr (yad gRd))))))], xg_rows gRd gRn (cy 1) gRk gRG] 0 0 [(0, .ref g), (1, .int i1), (2, .int b_1.1)] 53 [] := by
    refine xr_iload_n (n := 54) (j := 2) C dd_X9_severalOr_1.2.2.2.2.2.2.2.2.2.2.2.2.2.2.2.1 rfl rfl ?_
    refine xr_iconst (n := 55) (v := 1) C dd_X9_severalOr_2.1 rfl rfl ?_
    refine xr_icmp_le (tgt := 63) (n := 58) C dd_X9_severalOr_2.2.1 rfl rfl (fun c_2 => ?_) (fun c_2 => ?_)
    · replace hR := yf_t c_2 hR
      refine xr_aload_n (n := 64) (j := 0) C dd_X9_severalOr_2.2.2.2.2.1 rfl rfl ?_
      refine xr_iload_n (n := 65) (j := 1) C dd_X9_severalOr_2.2.2.2.2.2.1 rfl rfl ?_
      obtain ⟨x_3, hx_3, hR⟩ := yf_b hR
      refine xr_callVp (n := 68) (As := [.int i1]) (rest := []) C (kX9_wrong_i l D cy (g := g) (gth := gth) (gw := gw) (gB := gB) (gK := gK) (gU := gU) (gS := gS) (gbe := gbe) (gwo := gwo) (gta := gta) (glr := glr) (glc := glc) (gti := gti) (ggo := ggo) (gR := gR) (gch := gch) (gD := gD) (gRd := gRd) (gRn := gRn) (gRk := gRk) (gRG := gRG) (i1 := i1) hx_3) mX9_wrong u_1504 u_1506 u_48 0 rfl rfl 3 [0, 1, 2] [] rfl (by decide +kernel) rfl rfl rfl rfl (Nat.le_of_ble_eq_true rfl) (Nat.le_of_ble_eq_true rfl) (Nat.le_of_ble_eq_true rfl) (Nat.le_of_ble_eq_true rfl) (Nat.le_of_ble_eq_true rfl) dd_X9_severalOr_2.2.2.2.2.2.2.1 rfl (fun _ _ hp => hp.2) (fun v_4 hp_6 => ?_)
      obtain ⟨rfl, -⟩ := hp_6
      refine xr_st (st' := [.int x_3]) rfl ?_
      obtain rfl := Option.some.inj hR
      exact ret x_3 ⟨rfl, rfl⟩ (Nat.le_of_ble_eq_true rfl) (Nat.le_of_ble_eq_true rfl) dd_X9_severalOr_2.2.2.2.2.2.2.2.1
    · replace hR := yf_f c_2 hR
      refine xr_bipush (n := 60) (v := -2) C dd_X9_severalOr_2.2.2.1 rfl rfl ?_
      refine xr_goto (tgt := 68) C dd_X9_severalOr_2.2.2.2.1 rfl ?_
      obtain rfl := Option.some.inj hR
      exact ret (-2) ⟨rfl, rfl⟩ (Nat.le_of_ble_eq_true rfl) (Nat.le_of_ble_eq_true rfl) dd_X9_severalOr_2.2.2.2.2.2.2.2.1
  refine y_loop (P := fun (s_1 : Int32 × Int32) => X p l e (yR 3 0 0) s m args below meth c D A H0 4 Q [[(g, .inr (11, [.int gth, .ref gw, .ref gB, .ref gK, .ref gU, .ref gS, .int gbe, .int gwo, .long gta, .null, .int glr, .int glc, .int gti, .int ggo, .ref gR, .int gch, .ref gD]))], [(gR, .inl (cy 3, gRn, .inr (.inr (.inr (.inr (yad gRd))))))], xg_rows gRd gRn (cy 1) gRk gRG] 0 0 [(0, .ref g), (1, .int i1), (2, .int s_1.1), (3, .int s_1.2)] 4 []) ?_ _ (0, 0) hb_1
  intro s_1 o_1 ho_1 hk_1 hx_1
  refine xr_iload_n (n := 5) (j := 3) C dd_X9_severalOr_0.2.2.2.2.1 rfl rfl ?_
  refine xr_iload_n (n := 6) (j := 1) C dd_X9_severalOr_0.2.2.2.2.2.1 rfl rfl ?_
  obtain ⟨r_9, hE_9, ho_1⟩ := yf_b ho_1
  have J_9 : X p l e (yR 3 0 0) s m args below meth c D A H0 4 Q [[(g, .inr (11, [.int gth, .ref gw, .ref gB, .ref gK, .ref gU, .ref gS, .int gbe, .int gwo, .long gta, .null, .int glr, .int glc, .int gti, .int ggo, .ref gR, .int gch, .ref gD]))], [(gR, .inl (cy 3, gRn, .inr (.inr (.inr (.inr (yad gRd))))))], xg_rows gRd gRn (cy 1) gRk gRG] 0 0 [(0, .ref g), (1, .int i1), (2, .int s_1.1), (3, .int s_1.2)] 24 [.int r_9, .int s_1.2] := by
    refine xr_icmp_ge (tgt := 53) (n := 27) C dd_X9_severalOr_1.1 rfl rfl (fun c_10 => ?_) (fun c_10 => ?_)
    · replace ho_1 := yf_t c_10 ho_1
      refine xr_lv (lv' := [(0, .ref g), (1, .int i1), (2, .int s_1.1)]) [0, 1, 2] rfl ?_
      have e_11 := hx_1 _ (Option.some.inj ho_1).symm
      subst e_11
      exact K_1
    · replace ho_1 := yf_f c_10 ho_1
      refine xr_iload_n (n := 28) (j := 2) C dd_X9_severalOr_1.2.1 rfl rfl ?_
      refine xr_aload_n (n := 29) (j := 0) C dd_X9_severalOr_1.2.2.1 rfl rfl ?_
      refine xr_iload_n (n := 30) (j := 1) C dd_X9_severalOr_1.2.2.2.1 rfl rfl ?_
      refine xr_iload_n (n := 31) (j := 3) C dd_X9_severalOr_1.2.2.2.2.1 rfl rfl ?_
      obtain ⟨x_12, hx_12, ho_1⟩ := yf_b ho_1
      refine xr_callVp (n := 34) (As := [.int i1, .int s_1.2]) (rest := [.int s_1.1]) C (kX9_off_i l D cy (g := g) (gth := gth) (gw := gw) (gB := gB) (gK := gK) (gU := gU) (gS := gS) (gbe := gbe) (gwo := gwo) (gta := gta) (glr := glr) (glc := glc) (gti := gti) (ggo := ggo) (gR := gR) (gch := gch) (gD := gD) (gRd := gRd) (gRn := gRn) (gRk := gRk) (gRG := gRG) (i1 := i1) (i2 := s_1.2) hx_12) mX9_off u_1500 u_1502 u_47 0 rfl rfl 3 [0, 1, 2] [] rfl (by decide +kernel) rfl rfl rfl rfl (Nat.le_of_ble_eq_true rfl) (Nat.le_of_ble_eq_true rfl) (Nat.le_of_ble_eq_true rfl) (Nat.le_of_ble_eq_true rfl) (Nat.le_of_ble_eq_true rfl) dd_X9_severalOr_1.2.2.2.2.2.1 rfl (fun _ _ hp => hp.2) (fun v_13 hp_15 => ?_)
      obtain ⟨rfl, -⟩ := hp_15
      refine xr_st (st' := [.int x_12, .int s_1.1]) rfl ?_
      obtain ⟨r_17, hE_17, ho_1⟩ := yf_b ho_1
      have J_17 : X p l e (yR 3 0 0) s m args below meth c D A H0 4 Q [[(g, .inr (11, [.int gth, .ref gw, .ref gB, .ref gK, .ref gU, .ref gS, .int gbe, .int gwo, .long gta, .null, .int glr, .int glc, .int gti, .int ggo, .ref gR, .int gch, .ref gD]))], [(gR, .inl (cy 3, gRn, .inr (.inr (.inr (.inr (yad gRd))))))], xg_rows gRd gRn (cy 1) gRk gRG] 0 0 [(0, .ref g), (1, .int i1), (3, .int s_1.2)] 42 [.int r_17, .int s_1.1] := by
        obtain ⟨x_18, hx_18, ho_1⟩ := yf_b ho_1
        refine xr_callSp (n := 45) (As := [.int r_17]) (rest := [.int s_1.1]) C (kX9_one l D cy (i1 := r_17) hx_18) mX9_one u_1312 u_1313 3 [] [0, 1, 2] rfl (by decide +kernel) rfl rfl rfl rfl (Nat.le_of_ble_eq_true rfl) (Nat.le_of_ble_eq_true rfl) (Nat.le_of_ble_eq_true rfl) (Nat.le_of_ble_eq_true rfl) (Nat.le_of_ble_eq_true rfl) dd_X9_severalOr_1.2.2.2.2.2.2.2.2.2.2.1 rfl (fun _ _ hp => hp.2) (fun v_19 hp_21 => ?_)
        obtain ⟨rfl, -⟩ := hp_21
        refine xr_st (st' := [.int x_18, .int s_1.1]) rfl ?_
        refine xr_iadd (n := 46) C dd_X9_severalOr_1.2.2.2.2.2.2.2.2.2.2.2.1 rfl ?_
        refine xr_istore_n (n := 47) C [(2, .int (s_1.1 + x_18)), (0, .ref g), (1, .int i1), (3, .int s_1.2)] dd_X9_severalOr_1.2.2.2.2.2.2.2.2.2.2.2.2.1 (by decide) rfl rfl ?_
        refine xr_iinc (j := 3) (v := s_1.2 + 1) (n := 50) C [(3, .int (s_1.2 + 1)), (2, .int (s_1.1 + x_18)), (0, .ref g), (1, .int i1)] dd_X9_severalOr_1.2.2.2.2.2.2.2.2.2.2.2.2.2.1 rfl rfl (by decide) rfl rfl ?_
        refine xr_goto (tgt := 4) C dd_X9_severalOr_1.2.2.2.2.2.2.2.2.2.2.2.2.2.2.1 rfl ?_
        refine xr_lv (lv' := [(0, .ref g), (1, .int i1), (2, .int (s_1.1 + x_18)), (3, .int (s_1.2 + 1))]) [2, 3, 1, 0] rfl ?_
        exact hk_1 (s_1.1 + x_18, s_1.2 + 1) (Option.some.inj ho_1).symm
      refine xr_if_eq (tgt := 41) (n := 37) C dd_X9_severalOr_1.2.2.2.2.2.2.1 rfl rfl (fun c_22 => ?_) (fun c_22 => ?_)
      · replace hE_17 := yf_t c_22 hE_17
        refine xr_iconst (n := 42) (v := 0) C dd_X9_severalOr_1.2.2.2.2.2.2.2.2.2.1 rfl rfl ?_
        refine xr_lv (lv' := [(0, .ref g), (1, .int i1), (3, .int s_1.2)]) [0, 1, 3] rfl ?_
        have e_23 := Option.some.inj hE_17
        subst e_23
        exact J_17
      · replace hE_17 := yf_f c_22 hE_17
        refine xr_iconst (n := 38) (v := 1) C dd_X9_severalOr_1.2.2.2.2.2.2.2.1 rfl rfl ?_
        refine xr_goto (tgt := 42) C dd_X9_severalOr_1.2.2.2.2.2.2.2.2.1 rfl ?_
        refine xr_lv (lv' := [(0, .ref g), (1, .int i1), (3, .int s_1.2)]) [0, 1, 3] rfl ?_
        have e_24 := Option.some.inj hE_17
        subst e_24
        exact J_17
  refine xr_if_eq (tgt := 17) (n := 9) C dd_X9_severalOr_0.2.2.2.2.2.2.1 rfl rfl (fun c_25 => ?_) (fun c_25 => ?_)
  · replace hE_9 := yf_t c_25 hE_9
    refine xr_aload_n (n := 18) (j := 0) C dd_X9_severalOr_0.2.2.2.2.2.2.2.2.2.2.2.1 rfl rfl ?_
    refine xr_get (n := 21) C 0 rfl rfl 14 (by decide) in_X9 u_1251 rfl (v := .ref gR) rfl dd_X9_severalOr_0.2.2.2.2.2.2.2.2.2.2.2.2.1 rfl ?_
    refine xr_iconst (n := 22) (v := 0) C dd_X9_severalOr_0.2.2.2.2.2.2.2.2.2.2.2.2.2.1 rfl rfl ?_
    obtain ⟨g_26, hE_9⟩ := yf_g hE_9
    refine xr_aald (n := 23) C 1 0 rfl 3 rfl rfl g_26 rfl dd_X9_severalOr_0.2.2.2.2.2.2.2.2.2.2.2.2.2.2.1 rfl ?_
    refine xr_aleng (n := 24) C 2 1 rfl ((0 : Int32).toNatClampNeg) (ylt g_26) rfl dd_X9_severalOr_0.2.2.2.2.2.2.2.2.2.2.2.2.2.2.2.1 rfl ?_
    have e_27 := Option.some.inj hE_9
    subst e_27
    exact J_9
  · replace hE_9 := yf_f c_25 hE_9
    refine xr_aload_n (n := 10) (j := 0) C dd_X9_severalOr_0.2.2.2.2.2.2.2.1 rfl rfl ?_
    refine xr_get (n := 13) C 0 rfl rfl 14 (by decide) in_X9 u_1251 rfl (v := .ref gR) rfl dd_X9_severalOr_0.2.2.2.2.2.2.2.2.1 rfl ?_
    refine xr_alen (n := 14) C 1 0 rfl 3 rfl rfl dd_X9_severalOr_0.2.2.2.2.2.2.2.2.2.1 rfl ?_
    refine xr_goto (tgt := 24) C dd_X9_severalOr_0.2.2.2.2.2.2.2.2.2.2.1 rfl ?_
    have e_28 := Option.some.inj hE_9
    subst e_28
    exact J_9
def fX9_severalOr_r (gRn : Nat) (gRk : Nat) (gRG : Nat → Nat → Int32) (i1 : Int32) : Option (Int32) := ((wl (S := Int32 × Int32) (B := Int32 × Int32) (fun s_1 => ((((if i1 = 0 then (if ¬ ((0 : Int32) < 0 ∨ gRn ≤ (0 : Int32).toNatClampNeg) then some (nI gRk) else none) else some (nI gRn)) : Option (Int32))).bind fun r_9 => (if r_9 ≤ s_1.2 then some (.inr (s_1.1, s_1.2)) else ((fX9_off_r gRn gRk gRG i1 s_1.2).bind fun x_12 => ((((if x_12 = 0 then some 0 else some 1) : Option (Int32))).bind fun r_17 => ((fX9_one r_17).bind fun x_18 => some (.inl (s_1.1 + x_18, s_1.2 + 1)))))))) yFuel (0, 0)).bind fun b_1 => (if b_1.1 ≤ 1 then ((fX9_wrong_r gRn gRk gRG i1).bind fun x_3 => some x_3) else some (-2)))
set_option maxHeartbeats 4000000 in
set_option maxRecDepth 100000 in
theorem kX9_severalOr_r (l : Launch) (D : va_G) (cy : Nat → ClassId) (g : Nat) (gth : Int32) (gw : Nat) (gB : Nat) (gK : Nat) (gU : Nat) (gS : Nat) (gbe : Int32) (gwo : Int32) (gta : Int64) (gn : Nat) (glr : Int32) (glc : Int32) (gti : Int32) (ggo : Int32) (gR : Nat) (gch : Int32) (gD : Nat) (gRd : Nat → Nat) (gRn : Nat) (gRk : Nat) (gRG : Nat → Nat → Int32) (i1 : Int32) {res : Int32} (hR : fX9_severalOr_r gRn gRk gRG i1 = some res) : YM l D cy yX9_severalOr hX9_severalOr 3 0 0 [.ref g, .int i1] [[(g, .inr (11, [.int gth, .ref gw, .ref gB, .ref gK, .ref gU, .ref gS, .int gbe, .int gwo, .long gta, .ref gn, .int glr, .int glc, .int gti, .int ggo, .ref gR, .int gch, .ref gD]))], [(gR, .inl (cy 3, gRn, .inr (.inr (.inr (.inr (yad gRd))))))], xg_rows gRd gRn (cy 1) gRk gRG] (fun v u => v = some (.int res) ∧ u = [[(g, .inr (11, [.int gth, .ref gw, .ref gB, .ref gK, .ref gU, .ref gS, .int gbe, .int gwo, .long gta, .ref gn, .int glr, .int glc, .int gti, .int ggo, .ref gR, .int gch, .ref gD]))], [(gR, .inl (cy 3, gRn, .inr (.inr (.inr (.inr (yad gRd))))))], xg_rows gRd gRn (cy 1) gRk gRG]) := by
  unfold fX9_severalOr_r at hR
  refine YM.ofI (cc := cX9_severalOr) (maxL := 4) (ret := (some .int)) (by decide +kernel) rfl (Nat.le_of_ble_eq_true rfl) [(0, .ref g), (1, .int i1)] rfl rfl (fun p e s m args below meth c A H0 Q C hnm ret => ?_)
  refine xr_iconst (n := 1) (v := 0) C dd_X9_severalOr_0.1 rfl rfl ?_
  refine xr_istore_n (n := 2) C [(2, .int 0), (0, .ref g), (1, .int i1)] dd_X9_severalOr_0.2.1 (by decide) rfl rfl ?_
  refine xr_iconst (n := 3) (v := 0) C dd_X9_severalOr_0.2.2.1 rfl rfl ?_
  refine xr_istore_n (n := 4) C [(3, .int 0), (2, .int 0), (0, .ref g), (1, .int i1)] dd_X9_severalOr_0.2.2.2.1 (by decide) rfl rfl ?_
  refine xr_lv (lv' := [(0, .ref g), (1, .int i1), (2, .int 0), (3, .int 0)]) [2, 3, 1, 0] rfl ?_
  obtain ⟨b_1, hb_1, hR⟩ := yf_b hR
  have K_1 : X p l e (yR 3 0 0) s m args below meth c D A H0 4 Q [[(g, .inr (11, [.int gth, .ref gw, .ref gB, .ref gK, .ref gU, .ref gS, .int gbe, .int gwo, .long gta, .ref gn, .int glr, .int glc, .int gti, .int ggo, .ref gR, .int gch, .ref gD]))], [(gR, .inl (cy 3, gRn, .inr (.inr (.inr (.inr (yad gRd))))))], xg_rows gRd gRn (cy 1) gRk gRG] 0 0 [(0, .ref g), (1, .int i1), (2, .int b_1.1)] 53 [] := by
    refine xr_iload_n (n := 54) (j := 2) C dd_X9_severalOr_1.2.2.2.2.2.2.2.2.2.2.2.2.2.2.2.1 rfl rfl ?_
    refine xr_iconst (n := 55) (v := 1) C dd_X9_severalOr_2.1 rfl rfl ?_
    refine xr_icmp_le (tgt := 63) (n := 58) C dd_X9_severalOr_2.2.1 rfl rfl (fun c_2 => ?_) (fun c_2 => ?_)
    · replace hR := yf_t c_2 hR
      refine xr_aload_n (n := 64) (j := 0) C dd_X9_severalOr_2.2.2.2.2.1 rfl rfl ?_
      refine xr_iload_n (n := 65) (j := 1) C dd_X9_severalOr_2.2.2.2.2.2.1 rfl rfl ?_
      obtain ⟨x_3, hx_3, hR⟩ := yf_b hR
      refine xr_callVp (n := 68) (As := [.int i1]) (rest := []) C (kX9_wrong_r l D cy (g := g) (gth := gth) (gw := gw) (gB := gB) (gK := gK) (gU := gU) (gS := gS) (gbe := gbe) (gwo := gwo) (gta := gta) (gn := gn) (glr := glr) (glc := glc) (gti := gti) (ggo := ggo) (gR := gR) (gch := gch) (gD := gD) (gRd := gRd) (gRn := gRn) (gRk := gRk) (gRG := gRG) (i1 := i1) hx_3) mX9_wrong u_1504 u_1506 u_48 0 rfl rfl 3 [0, 1, 2] [] rfl (by decide +kernel) rfl rfl rfl rfl (Nat.le_of_ble_eq_true rfl) (Nat.le_of_ble_eq_true rfl) (Nat.le_of_ble_eq_true rfl) (Nat.le_of_ble_eq_true rfl) (Nat.le_of_ble_eq_true rfl) dd_X9_severalOr_2.2.2.2.2.2.2.1 rfl (fun _ _ hp => hp.2) (fun v_4 hp_6 => ?_)
      obtain ⟨rfl, -⟩ := hp_6
      refine xr_st (st' := [.int x_3]) rfl ?_
      obtain rfl := Option.some.inj hR
      exact ret x_3 ⟨rfl, rfl⟩ (Nat.le_of_ble_eq_true rfl) (Nat.le_of_ble_eq_true rfl) dd_X9_severalOr_2.2.2.2.2.2.2.2.1
    · replace hR := yf_f c_2 hR
      refine xr_bipush (n := 60) (v := -2) C dd_X9_severalOr_2.2.2.1 rfl rfl ?_
      refine xr_goto (tgt := 68) C dd_X9_severalOr_2.2.2.2.1 rfl ?_
      obtain rfl := Option.some.inj hR
      exact ret (-2) ⟨rfl, rfl⟩ (Nat.le_of_ble_eq_true rfl) (Nat.le_of_ble_eq_true rfl) dd_X9_severalOr_2.2.2.2.2.2.2.2.1
  refine y_loop (P := fun (s_1 : Int32 × Int32) => X p l e (yR 3 0 0) s m args below meth c D A H0 4 Q [[(g, .inr (11, [.int gth, .ref gw, .ref gB, .ref gK, .ref gU, .ref gS, .int gbe, .int gwo, .long gta, .ref gn, .int glr, .int glc, .int gti, .int ggo, .ref gR, .int gch, .ref gD]))], [(gR, .inl (cy 3, gRn, .inr (.inr (.inr (.inr (yad gRd))))))], xg_rows gRd gRn (cy 1) gRk gRG] 0 0 [(0, .ref g), (1, .int i1), (2, .int s_1.1), (3, .int s_1.2)] 4 []) ?_ _ (0, 0) hb_1
  intro s_1 o_1 ho_1 hk_1 hx_1
  refine xr_iload_n (n := 5) (j := 3) C dd_X9_severalOr_0.2.2.2.2.1 rfl rfl ?_
  refine xr_iload_n (n := 6) (j := 1) C dd_X9_severalOr_0.2.2.2.2.2.1 rfl rfl ?_
  obtain ⟨r_9, hE_9, ho_1⟩ := yf_b ho_1
  have J_9 : X p l e (yR 3 0 0) s m args below meth c D A H0 4 Q [[(g, .inr (11, [.int gth, .ref gw, .ref gB, .ref gK, .ref gU, .ref gS, .int gbe, .int gwo, .long gta, .ref gn, .int glr, .int glc, .int gti, .int ggo, .ref gR, .int gch, .ref gD]))], [(gR, .inl (cy 3, gRn, .inr (.inr (.inr (.inr (yad gRd))))))], xg_rows gRd gRn (cy 1) gRk gRG] 0 0 [(0, .ref g), (1, .int i1), (2, .int s_1.1), (3, .int s_1.2)] 24 [.int r_9, .int s_1.2] := by
    refine xr_icmp_ge (tgt := 53) (n := 27) C dd_X9_severalOr_1.1 rfl rfl (fun c_10 => ?_) (fun c_10 => ?_)
    · replace ho_1 := yf_t c_10 ho_1
      refine xr_lv (lv' := [(0, .ref g), (1, .int i1), (2, .int s_1.1)]) [0, 1, 2] rfl ?_
      have e_11 := hx_1 _ (Option.some.inj ho_1).symm
      subst e_11
      exact K_1
    · replace ho_1 := yf_f c_10 ho_1
      refine xr_iload_n (n := 28) (j := 2) C dd_X9_severalOr_1.2.1 rfl rfl ?_
      refine xr_aload_n (n := 29) (j := 0) C dd_X9_severalOr_1.2.2.1 rfl rfl ?_
      refine xr_iload_n (n := 30) (j := 1) C dd_X9_severalOr_1.2.2.2.1 rfl rfl ?_
      refine xr_iload_n (n := 31) (j := 3) C dd_X9_severalOr_1.2.2.2.2.1 rfl rfl ?_
      obtain ⟨x_12, hx_12, ho_1⟩ := yf_b ho_1
      refine xr_callVp (n := 34) (As := [.int i1, .int s_1.2]) (rest := [.int s_1.1]) C (kX9_off_r l D cy (g := g) (gth := gth) (gw := gw) (gB := gB) (gK := gK) (gU := gU) (gS := gS) (gbe := gbe) (gwo := gwo) (gta := gta) (gn := gn) (glr := glr) (glc := glc) (gti := gti) (ggo := ggo) (gR := gR) (gch := gch) (gD := gD) (gRd := gRd) (gRn := gRn) (gRk := gRk) (gRG := gRG) (i1 := i1) (i2 := s_1.2) hx_12) mX9_off u_1500 u_1502 u_47 0 rfl rfl 3 [0, 1, 2] [] rfl (by decide +kernel) rfl rfl rfl rfl (Nat.le_of_ble_eq_true rfl) (Nat.le_of_ble_eq_true rfl) (Nat.le_of_ble_eq_true rfl) (Nat.le_of_ble_eq_true rfl) (Nat.le_of_ble_eq_true rfl) dd_X9_severalOr_1.2.2.2.2.2.1 rfl (fun _ _ hp => hp.2) (fun v_13 hp_15 => ?_)
      obtain ⟨rfl, -⟩ := hp_15
      refine xr_st (st' := [.int x_12, .int s_1.1]) rfl ?_
      obtain ⟨r_17, hE_17, ho_1⟩ := yf_b ho_1
      have J_17 : X p l e (yR 3 0 0) s m args below meth c D A H0 4 Q [[(g, .inr (11, [.int gth, .ref gw, .ref gB, .ref gK, .ref gU, .ref gS, .int gbe, .int gwo, .long gta, .ref gn, .int glr, .int glc, .int gti, .int ggo, .ref gR, .int gch, .ref gD]))], [(gR, .inl (cy 3, gRn, .inr (.inr (.inr (.inr (yad gRd))))))], xg_rows gRd gRn (cy 1) gRk gRG] 0 0 [(0, .ref g), (1, .int i1), (3, .int s_1.2)] 42 [.int r_17, .int s_1.1] := by
        obtain ⟨x_18, hx_18, ho_1⟩ := yf_b ho_1
        refine xr_callSp (n := 45) (As := [.int r_17]) (rest := [.int s_1.1]) C (kX9_one l D cy (i1 := r_17) hx_18) mX9_one u_1312 u_1313 3 [] [0, 1, 2] rfl (by decide +kernel) rfl rfl rfl rfl (Nat.le_of_ble_eq_true rfl) (Nat.le_of_ble_eq_true rfl) (Nat.le_of_ble_eq_true rfl) (Nat.le_of_ble_eq_true rfl) (Nat.le_of_ble_eq_true rfl) dd_X9_severalOr_1.2.2.2.2.2.2.2.2.2.2.1 rfl (fun _ _ hp => hp.2) (fun v_19 hp_21 => ?_)
        obtain ⟨rfl, -⟩ := hp_21
        refine xr_st (st' := [.int x_18, .int s_1.1]) rfl ?_
        refine xr_iadd (n := 46) C dd_X9_severalOr_1.2.2.2.2.2.2.2.2.2.2.2.1 rfl ?_
        refine xr_istore_n (n := 47) C [(2, .int (s_1.1 + x_18)), (0, .ref g), (1, .int i1), (3, .int s_1.2)] dd_X9_severalOr_1.2.2.2.2.2.2.2.2.2.2.2.2.1 (by decide) rfl rfl ?_
        refine xr_iinc (j := 3) (v := s_1.2 + 1) (n := 50) C [(3, .int (s_1.2 + 1)), (2, .int (s_1.1 + x_18)), (0, .ref g), (1, .int i1)] dd_X9_severalOr_1.2.2.2.2.2.2.2.2.2.2.2.2.2.1 rfl rfl (by decide) rfl rfl ?_
        refine xr_goto (tgt := 4) C dd_X9_severalOr_1.2.2.2.2.2.2.2.2.2.2.2.2.2.2.1 rfl ?_
        refine xr_lv (lv' := [(0, .ref g), (1, .int i1), (2, .int (s_1.1 + x_18)), (3, .int (s_1.2 + 1))]) [2, 3, 1, 0] rfl ?_
        exact hk_1 (s_1.1 + x_18, s_1.2 + 1) (Option.some.inj ho_1).symm
      refine xr_if_eq (tgt := 41) (n := 37) C dd_X9_severalOr_1.2.2.2.2.2.2.1 rfl rfl (fun c_22 => ?_) (fun c_22 => ?_)
      · replace hE_17 := yf_t c_22 hE_17
        refine xr_iconst (n := 42) (v := 0) C dd_X9_severalOr_1.2.2.2.2.2.2.2.2.2.1 rfl rfl ?_
        refine xr_lv (lv' := [(0, .ref g), (1, .int i1), (3, .int s_1.2)]) [0, 1, 3] rfl ?_
        have e_23 := Option.some.inj hE_17
        subst e_23
        exact J_17
      · replace hE_17 := yf_f c_22 hE_17
        refine xr_iconst (n := 38) (v := 1) C dd_X9_severalOr_1.2.2.2.2.2.2.2.1 rfl rfl ?_
        refine xr_goto (tgt := 42) C dd_X9_severalOr_1.2.2.2.2.2.2.2.2.1 rfl ?_
        refine xr_lv (lv' := [(0, .ref g), (1, .int i1), (3, .int s_1.2)]) [0, 1, 3] rfl ?_
        have e_24 := Option.some.inj hE_17
        subst e_24
        exact J_17
  refine xr_if_eq (tgt := 17) (n := 9) C dd_X9_severalOr_0.2.2.2.2.2.2.1 rfl rfl (fun c_25 => ?_) (fun c_25 => ?_)
  · replace hE_9 := yf_t c_25 hE_9
    refine xr_aload_n (n := 18) (j := 0) C dd_X9_severalOr_0.2.2.2.2.2.2.2.2.2.2.2.1 rfl rfl ?_
    refine xr_get (n := 21) C 0 rfl rfl 14 (by decide) in_X9 u_1251 rfl (v := .ref gR) rfl dd_X9_severalOr_0.2.2.2.2.2.2.2.2.2.2.2.2.1 rfl ?_
    refine xr_iconst (n := 22) (v := 0) C dd_X9_severalOr_0.2.2.2.2.2.2.2.2.2.2.2.2.2.1 rfl rfl ?_
    obtain ⟨g_26, hE_9⟩ := yf_g hE_9
    refine xr_aald (n := 23) C 1 0 rfl 3 rfl rfl g_26 rfl dd_X9_severalOr_0.2.2.2.2.2.2.2.2.2.2.2.2.2.2.1 rfl ?_
    refine xr_aleng (n := 24) C 2 1 rfl ((0 : Int32).toNatClampNeg) (ylt g_26) rfl dd_X9_severalOr_0.2.2.2.2.2.2.2.2.2.2.2.2.2.2.2.1 rfl ?_
    have e_27 := Option.some.inj hE_9
    subst e_27
    exact J_9
  · replace hE_9 := yf_f c_25 hE_9
    refine xr_aload_n (n := 10) (j := 0) C dd_X9_severalOr_0.2.2.2.2.2.2.2.1 rfl rfl ?_
    refine xr_get (n := 13) C 0 rfl rfl 14 (by decide) in_X9 u_1251 rfl (v := .ref gR) rfl dd_X9_severalOr_0.2.2.2.2.2.2.2.2.1 rfl ?_
    refine xr_alen (n := 14) C 1 0 rfl 3 rfl rfl dd_X9_severalOr_0.2.2.2.2.2.2.2.2.2.1 rfl ?_
    refine xr_goto (tgt := 24) C dd_X9_severalOr_0.2.2.2.2.2.2.2.2.2.2.1 rfl ?_
    have e_28 := Option.some.inj hE_9
    subst e_28
    exact J_9
theorem dd_X9_check_0 : dk_R cX9_check [(0, .aload_n 0, 1), (1, .aload_n 0, 1), (2, .getfield 38, 3), (5, .arraylength, 1), (6, .ifCond .eq 10, 3), (9, .aload_n 0, 1), (10, .getfield 223, 3), (13, .ifCond .ne 7, 3), (16, .iconst 1, 1), (17, .goto 4, 3), (20, .iconst 0, 1), (21, .iconst 1, 1), (22, .invokevirtual 79, 3), (25, .ifCond .eq 5, 3), (28, .iconst 0, 1), (29, .ireturn, 1)] := dk_use _ _ (by decide +kernel)
theorem dd_X9_check_1 : dk_R cX9_check [(30, .aload_n 0, 1), (31, .iconst 1, 1), (32, .invokevirtual 235, 3), (35, .istore_n 1, 1), (36, .aload_n 0, 1), (37, .iconst 0, 1), (38, .invokevirtual 235, 3), (41, .istore_n 2, 1), (42, .iload_n 1, 1), (43, .iconst (-1), 1), (44, .if_icmp .ne 10, 3), (47, .iload_n 2, 1), (48, .iconst (-1), 1), (49, .if_icmp .ne 5, 3), (52, .iconst 0, 1), (53, .ireturn, 1)] := dk_use _ _ (by decide +kernel)
theorem dd_X9_check_2 : dk_R cX9_check [(54, .iload_n 1, 1), (55, .ifCond .lt 7, 3), (58, .iload_n 2, 1), (59, .ifCond .ge 5, 3), (62, .iconst 2, 1), (63, .ireturn, 1), (64, .iload_n 2, 1), (65, .aload_n 0, 1), (66, .getfield 38, 3), (69, .iconst 0, 1), (70, .aaload, 1), (71, .arraylength, 1), (72, .iconst 1, 1), (73, .isub, 1), (74, .if_icmp .ne 13, 3), (77, .aload_n 0, 1)] := dk_use _ _ (by decide +kernel)
theorem dd_X9_check_3 : dk_R cX9_check [(78, .iconst 1, 1), (79, .iload_n 1, 1), (80, .invokevirtual 231, 3), (83, .ineg, 1), (84, .goto 9, 3), (87, .aload_n 0, 1), (88, .iconst 1, 1), (89, .iload_n 1, 1), (90, .invokevirtual 231, 3), (93, .istore_n 3, 1), (94, .iload_n 1, 1), (95, .aload_n 0, 1), (96, .getfield 38, 3), (99, .arraylength, 1), (100, .iconst 1, 1), (101, .isub, 1)] := dk_use _ _ (by decide +kernel)
theorem dd_X9_check_4 : dk_R cX9_check [(102, .if_icmp .ne 13, 3), (105, .aload_n 0, 1), (106, .iconst 0, 1), (107, .iload_n 2, 1), (108, .invokevirtual 231, 3), (111, .ineg, 1), (112, .goto 9, 3), (115, .aload_n 0, 1), (116, .iconst 0, 1), (117, .iload_n 2, 1), (118, .invokevirtual 231, 3), (121, .istore 4, 2), (123, .iload_n 3, 1), (124, .iload 4, 2), (126, .if_icmp .eq 5, 3), (129, .iconst 2, 1)] := dk_use _ _ (by decide +kernel)
theorem dd_X9_check_5 : dk_R cX9_check [(130, .ireturn, 1), (131, .aload_n 0, 1), (132, .getfield 38, 3), (135, .iload_n 1, 1), (136, .aaload, 1), (137, .iload_n 2, 1), (138, .dup2, 1), (139, .iaload, 1), (140, .iload_n 3, 1), (141, .iadd, 1), (142, .iastore, 1), (143, .iconst 1, 1), (144, .ireturn, 1)] := dk_use _ _ (by decide +kernel)
def fX9_check_i (gch : Int32) (gRn : Nat) (gRk : Nat) (gRG : Nat → Nat → Int32) : Option (Int32 × Int32 × (Nat → Nat → Int32)) := ((((if (nI gRn) = 0 then some 1 else (if gch = 0 then some 1 else some 0)) : Option (Int32))).bind fun r_3 => ((fX9_start_i r_3 1).bind fun x_4 => (if x_4.1 = 0 then ((fX9_severalOr_i gRn gRk gRG 1).bind fun x_9 => ((fX9_severalOr_i gRn gRk gRG 0).bind fun x_13 => (if x_9 = (-1) then (if x_13 = (-1) then some (0, x_4.2, gRG) else (if x_9 < 0 then some (2, x_4.2, gRG) else (if 0 ≤ x_13 then (if ¬ ((0 : Int32) < 0 ∨ gRn ≤ (0 : Int32).toNatClampNeg) then ((((if x_13 = ((nI gRk) - 1) then ((fX9_off_i gRn gRk gRG 1 x_9).bind fun x_112 => some (-x_112)) else ((fX9_off_i gRn gRk gRG 1 x_9).bind fun x_107 => some x_107)) : Option (Int32))).bind fun r_80 => ((((if x_9 = ((nI gRn) - 1) then ((fX9_off_i gRn gRk gRG 0 x_13).bind fun x_101 => some (-x_101)) else ((fX9_off_i gRn gRk gRG 0 x_13).bind fun x_96 => some x_96)) : Option (Int32))).bind fun r_90 => (if r_80 = r_90 then (if ¬ (x_9 < 0 ∨ gRn ≤ x_9.toNatClampNeg) then (if ¬ (x_13 < 0 ∨ gRk ≤ x_13.toNatClampNeg) then (if ¬ (x_13 < 0 ∨ gRk ≤ x_13.toNatClampNeg) then some (1, x_4.2, upg gRG x_9.toNatClampNeg x_13.toNatClampNeg ((gRG x_9.toNatClampNeg x_13.toNatClampNeg) + r_80)) else none) else none) else none) else some (2, x_4.2, gRG)))) else none) else some (2, x_4.2, gRG)))) else (if x_9 < 0 then some (2, x_4.2, gRG) else (if 0 ≤ x_13 then (if ¬ ((0 : Int32) < 0 ∨ gRn ≤ (0 : Int32).toNatClampNeg) then ((((if x_13 = ((nI gRk) - 1) then ((fX9_off_i gRn gRk gRG 1 x_9).bind fun x_62 => some (-x_62)) else ((fX9_off_i gRn gRk gRG 1 x_9).bind fun x_57 => some x_57)) : Option (Int32))).bind fun r_30 => ((((if x_9 = ((nI gRn) - 1) then ((fX9_off_i gRn gRk gRG 0 x_13).bind fun x_51 => some (-x_51)) else ((fX9_off_i gRn gRk gRG 0 x_13).bind fun x_46 => some x_46)) : Option (Int32))).bind fun r_40 => (if r_30 = r_40 then (if ¬ (x_9 < 0 ∨ gRn ≤ x_9.toNatClampNeg) then (if ¬ (x_13 < 0 ∨ gRk ≤ x_13.toNatClampNeg) then (if ¬ (x_13 < 0 ∨ gRk ≤ x_13.toNatClampNeg) then some (1, x_4.2, upg gRG x_9.toNatClampNeg x_13.toNatClampNeg ((gRG x_9.toNatClampNeg x_13.toNatClampNeg) + r_30)) else none) else none) else none) else some (2, x_4.2, gRG)))) else none) else some (2, x_4.2, gRG)))))) else some (0, x_4.2, gRG))))
abbrev hX9_check : Cond := .code yX9_check cX9_check 5 (some .int)
theorem mX9_check : yM yX9_check hX9_check 0 := ⟨u_1495, u_64, by decide +kernel, by decide +kernel, by decide +kernel⟩
set_option maxHeartbeats 4000000 in
set_option maxRecDepth 100000 in
theorem kX9_check_i (l : Launch) (D : va_G) (cy : Nat → ClassId) (g : Nat) (gth : Int32) (gw : Nat) (gB : Nat) (gK : Nat) (gU : Nat) (gS : Nat) (gbe : Int32) (gwo : Int32) (gta : Int64) (glr : Int32) (glc : Int32) (gti : Int32) (ggo : Int32) (gR : Nat) (gch : Int32) (gD : Nat) (gRd : Nat → Nat) (gRn : Nat) (gRk : Nat) (gRG : Nat → Nat → Int32) {res : Int32 × Int32 × (Nat → Nat → Int32)} (hR : fX9_check_i gch gRn gRk gRG = some res) : YM l D cy yX9_check hX9_check 4 0 0 [.ref g] [[(g, .inr (11, [.int gth, .ref gw, .ref gB, .ref gK, .ref gU, .ref gS, .int gbe, .int gwo, .long gta, .null, .int glr, .int glc, .int gti, .int ggo, .ref gR, .int gch, .ref gD]))], [(gR, .inl (cy 3, gRn, .inr (.inr (.inr (.inr (yad gRd))))))], xg_rows gRd gRn (cy 1) gRk gRG] (fun v u => v = some (.int res.1) ∧ u = [[(g, .inr (11, [.int res.2.1, .ref gw, .ref gB, .ref gK, .ref gU, .ref gS, .int gbe, .int gwo, .long gta, .null, .int glr, .int glc, .int gti, .int ggo, .ref gR, .int gch, .ref gD]))], [(gR, .inl (cy 3, gRn, .inr (.inr (.inr (.inr (yad gRd))))))], xg_rows gRd gRn (cy 1) gRk res.2.2]) := by
  unfold fX9_check_i at hR
  refine YM.ofI (cc := cX9_check) (maxL := 5) (ret := (some .int)) (by decide +kernel) rfl (Nat.le_of_ble_eq_true rfl) [(0, .ref g)] rfl rfl (fun p e s m args below meth c A H0 Q C hnm ret => ?_)
  refine xr_aload_n (n := 1) (j := 0) C dd_X9_check_0.1 rfl rfl ?_
  refine xr_aload_n (n := 2) (j := 0) C dd_X9_check_0.2.1 rfl rfl ?_
  refine xr_get (n := 5) C 0 rfl rfl 14 (by decide) in_X9 u_1251 rfl (v := .ref gR) rfl dd_X9_check_0.2.2.1 rfl ?_
  refine xr_alen (n := 6) C 1 0 rfl 3 rfl rfl dd_X9_check_0.2.2.2.1 rfl ?_
  obtain ⟨r_3, hE_3, hR⟩ := yf_b hR
  have J_3 : X p l e (yR 4 0 0) s m args below meth c D A H0 5 Q [[(g, .inr (11, [.int gth, .ref gw, .ref gB, .ref gK, .ref gU, .ref gS, .int gbe, .int gwo, .long gta, .null, .int glr, .int glc, .int gti, .int ggo, .ref gR, .int gch, .ref gD]))], [(gR, .inl (cy 3, gRn, .inr (.inr (.inr (.inr (yad gRd))))))], xg_rows gRd gRn (cy 1) gRk gRG] 0 0 [(0, .ref g)] 21 [.int r_3, .ref g] := by
    refine xr_iconst (n := 22) (v := 1) C dd_X9_check_0.2.2.2.2.2.2.2.2.2.2.2.1 rfl rfl ?_
    obtain ⟨x_4, hx_4, hR⟩ := yf_b hR
    refine xr_callV (n := 25) (As := [.int r_3, .int 1]) (rest := []) C (kX9_start_i l D cy (g := g) (gth := gth) (gw := gw) (gB := gB) (gK := gK) (gU := gU) (gS := gS) (gbe := gbe) (gwo := gwo) (gta := gta) (glr := glr) (glc := glc) (gti := gti) (ggo := ggo) (gR := gR) (gch := gch) (gD := gD) (i1 := r_3) (i2 := 1) hx_4) mX9_start u_1301 u_1303 u_29 0 rfl rfl 3 [0] [1, 2] rfl (by decide +kernel) rfl rfl rfl rfl (Nat.le_of_ble_eq_true rfl) (Nat.le_of_ble_eq_true rfl) (Nat.le_of_ble_eq_true rfl) (Nat.le_of_ble_eq_true rfl) (Nat.le_of_ble_eq_true rfl) dd_X9_check_0.2.2.2.2.2.2.2.2.2.2.2.2.1 rfl (fun v_5 u_6 hp_7 => ?_)
    obtain ⟨rfl, rfl⟩ := hp_7
    refine xr_perm C 3 [0, 1, 2] [] [[(g, .inr (11, [.int x_4.2, .ref gw, .ref gB, .ref gK, .ref gU, .ref gS, .int gbe, .int gwo, .long gta, .null, .int glr, .int glc, .int gti, .int ggo, .ref gR, .int gch, .ref gD]))], [(gR, .inl (cy 3, gRn, .inr (.inr (.inr (.inr (yad gRd))))))], xg_rows gRd gRn (cy 1) gRk gRG] rfl (by decide +kernel) rfl ?_
    refine xr_st (st' := [.int x_4.1]) rfl ?_
    refine xr_if_eq (tgt := 30) (n := 28) C dd_X9_check_0.2.2.2.2.2.2.2.2.2.2.2.2.2.1 rfl rfl (fun c_8 => ?_) (fun c_8 => ?_)
    · replace hR := yf_t c_8 hR
      refine xr_aload_n (n := 31) (j := 0) C dd_X9_check_1.1 rfl rfl ?_
      refine xr_iconst (n := 32) (v := 1) C dd_X9_check_1.2.1 rfl rfl ?_
      obtain ⟨x_9, hx_9, hR⟩ := yf_b hR
      refine xr_callVp (n := 35) (As := [.int 1]) (rest := []) C (kX9_severalOr_i l D cy (g := g) (gth := x_4.2) (gw := gw) (gB := gB) (gK := gK) (gU := gU) (gS := gS) (gbe := gbe) (gwo := gwo) (gta := gta) (glr := glr) (glc := glc) (gti := gti) (ggo := ggo) (gR := gR) (gch := gch) (gD := gD) (gRd := gRd) (gRn := gRn) (gRk := gRk) (gRG := gRG) (i1 := 1) hx_9) mX9_severalOr u_1496 u_1498 u_46 0 rfl rfl 3 [0, 1, 2] [] rfl (by decide +kernel) rfl rfl rfl rfl (Nat.le_of_ble_eq_true rfl) (Nat.le_of_ble_eq_true rfl) (Nat.le_of_ble_eq_true rfl) (Nat.le_of_ble_eq_true rfl) (Nat.le_of_ble_eq_true rfl) dd_X9_check_1.2.2.1 rfl (fun _ _ hp => hp.2) (fun v_10 hp_12 => ?_)
      obtain ⟨rfl, -⟩ := hp_12
      refine xr_st (st' := [.int x_9]) rfl ?_
      refine xr_istore_n (n := 36) C [(1, .int x_9), (0, .ref g)] dd_X9_check_1.2.2.2.1 (by decide) rfl rfl ?_
      refine xr_aload_n (n := 37) (j := 1) C dd_X9_check_1.2.2.2.2.1 rfl rfl ?_
      refine xr_iconst (n := 38) (v := 0) C dd_X9_check_1.2.2.2.2.2.1 rfl rfl ?_
      obtain ⟨x_13, hx_13, hR⟩ := yf_b hR
      refine xr_callVp (n := 41) (As := [.int 0]) (rest := []) C (kX9_severalOr_i l D cy (g := g) (gth := x_4.2) (gw := gw) (gB := gB) (gK := gK) (gU := gU) (gS := gS) (gbe := gbe) (gwo := gwo) (gta := gta) (glr := glr) (glc := glc) (gti := gti) (ggo := ggo) (gR := gR) (gch := gch) (gD := gD) (gRd := gRd) (gRn := gRn) (gRk := gRk) (gRG := gRG) (i1 := 0) hx_13) mX9_severalOr u_1496 u_1498 u_46 0 rfl rfl 3 [0, 1, 2] [] rfl (by decide +kernel) rfl rfl rfl rfl (Nat.le_of_ble_eq_true rfl) (Nat.le_of_ble_eq_true rfl) (Nat.le_of_ble_eq_true rfl) (Nat.le_of_ble_eq_true rfl) (Nat.le_of_ble_eq_true rfl) dd_X9_check_1.2.2.2.2.2.2.1 rfl (fun _ _ hp => hp.2) (fun v_14 hp_16 => ?_)
      obtain ⟨rfl, -⟩ := hp_16
      refine xr_st (st' := [.int x_13]) rfl ?_
      refine xr_istore_n (n := 42) C [(2, .int x_13), (1, .int x_9), (0, .ref g)] dd_X9_check_1.2.2.2.2.2.2.2.1 (by decide) rfl rfl ?_
      refine xr_iload_n (n := 43) (j := 1) C dd_X9_check_1.2.2.2.2.2.2.2.2.1 rfl rfl ?_
      refine xr_iconst (n := 44) (v := -1) C dd_X9_check_1.2.2.2.2.2.2.2.2.2.1 rfl rfl ?_
      refine xr_icmp_ne (tgt := 54) (n := 47) C dd_X9_check_1.2.2.2.2.2.2.2.2.2.2.1 rfl rfl (fun c_17 => ?_) (fun c_17 => ?_)
      · replace hR := yf_f c_17 hR
        refine xr_iload_n (n := 55) (j := 1) C dd_X9_check_2.1 rfl rfl ?_
        refine xr_if_lt (tgt := 62) (n := 58) C dd_X9_check_2.2.1 rfl rfl (fun c_18 => ?_) (fun c_18 => ?_)
        · replace hR := yf_t c_18 hR
          refine xr_iconst (n := 63) (v := 2) C dd_X9_check_2.2.2.2.2.1 rfl rfl ?_
          obtain rfl := Option.some.inj hR
          exact ret 2 ⟨rfl, rfl⟩ (Nat.le_of_ble_eq_true rfl) (Nat.le_of_ble_eq_true rfl) dd_X9_check_2.2.2.2.2.2.1
        · replace hR := yf_f c_18 hR
          refine xr_iload_n (n := 59) (j := 0) C dd_X9_check_2.2.2.1 rfl rfl ?_
          refine xr_if_ge (tgt := 64) (n := 62) C dd_X9_check_2.2.2.2.1 rfl rfl (fun c_19 => ?_) (fun c_19 => ?_)
          · replace hR := yf_t c_19 hR
            refine xr_iload_n (n := 65) (j := 0) C dd_X9_check_2.2.2.2.2.2.2.1 rfl rfl ?_
            refine xr_aload_n (n := 66) (j := 2) C dd_X9_check_2.2.2.2.2.2.2.2.1 rfl rfl ?_
            refine xr_get (n := 69) C 0 rfl rfl 14 (by decide) in_X9 u_1251 rfl (v := .ref gR) rfl dd_X9_check_2.2.2.2.2.2.2.2.2.1 rfl ?_
            refine xr_iconst (n := 70) (v := 0) C dd_X9_check_2.2.2.2.2.2.2.2.2.2.1 rfl rfl ?_
            obtain ⟨g_20, hR⟩ := yf_g hR
            refine xr_aald (n := 71) C 1 0 rfl 3 rfl rfl g_20 rfl dd_X9_check_2.2.2.2.2.2.2.2.2.2.2.1 rfl ?_
            refine xr_aleng (n := 72) C 2 1 rfl ((0 : Int32).toNatClampNeg) (ylt g_20) rfl dd_X9_check_2.2.2.2.2.2.2.2.2.2.2.2.1 rfl ?_
            refine xr_iconst (n := 73) (v := 1) C dd_X9_check_2.2.2.2.2.2.2.2.2.2.2.2.2.1 rfl rfl ?_
            refine xr_isub (n := 74) C dd_X9_check_2.2.2.2.2.2.2.2.2.2.2.2.2.2.1 rfl ?_
            obtain ⟨r_30, hE_30, hR⟩ := yf_b hR
            have J_30 : X p l e (yR 4 0 0) s m args below meth c D A H0 5 Q [[(g, .inr (11, [.int x_4.2, .ref gw, .ref gB, .ref gK, .ref gU, .ref gS, .int gbe, .int gwo, .long gta, .null, .int glr, .int glc, .int gti, .int ggo, .ref gR, .int gch, .ref gD]))], [(gR, .inl (cy 3, gRn, .inr (.inr (.inr (.inr (yad gRd))))))], xg_rows gRd gRn (cy 1) gRk gRG] 0 0 [(0, .ref g), (1, .int x_9), (2, .int x_13)] 93 [.int r_30] := by
              refine xr_istore_n (n := 94) C [(3, .int r_30), (0, .ref g), (1, .int x_9), (2, .int x_13)] dd_X9_check_3.2.2.2.2.2.2.2.2.2.1 (by decide) rfl rfl ?_
              refine xr_iload_n (n := 95) (j := 2) C dd_X9_check_3.2.2.2.2.2.2.2.2.2.2.1 rfl rfl ?_
              refine xr_aload_n (n := 96) (j := 1) C dd_X9_check_3.2.2.2.2.2.2.2.2.2.2.2.1 rfl rfl ?_
              refine xr_get (n := 99) C 0 rfl rfl 14 (by decide) in_X9 u_1251 rfl (v := .ref gR) rfl dd_X9_check_3.2.2.2.2.2.2.2.2.2.2.2.2.1 rfl ?_
              refine xr_alen (n := 100) C 1 0 rfl 3 rfl rfl dd_X9_check_3.2.2.2.2.2.2.2.2.2.2.2.2.2.1 rfl ?_
              refine xr_iconst (n := 101) (v := 1) C dd_X9_check_3.2.2.2.2.2.2.2.2.2.2.2.2.2.2.1 rfl rfl ?_
              refine xr_isub (n := 102) C dd_X9_check_3.2.2.2.2.2.2.2.2.2.2.2.2.2.2.2.1 rfl ?_
              obtain ⟨r_40, hE_40, hR⟩ := yf_b hR
              have J_40 : X p l e (yR 4 0 0) s m args below meth c D A H0 5 Q [[(g, .inr (11, [.int x_4.2, .ref gw, .ref gB, .ref gK, .ref gU, .ref gS, .int gbe, .int gwo, .long gta, .null, .int glr, .int glc, .int gti, .int ggo, .ref gR, .int gch, .ref gD]))], [(gR, .inl (cy 3, gRn, .inr (.inr (.inr (.inr (yad gRd))))))], xg_rows gRd gRn (cy 1) gRk gRG] 0 0 [(0, .ref g), (1, .int x_9), (2, .int x_13), (3, .int r_30)] 121 [.int r_40] := by
                refine xr_istore (n := 123) C [(4, .int r_40), (0, .ref g), (1, .int x_9), (2, .int x_13), (3, .int r_30)] dd_X9_check_4.2.2.2.2.2.2.2.2.2.2.2.1 (by decide) rfl rfl ?_
                refine xr_iload_n (n := 124) (j := 4) C dd_X9_check_4.2.2.2.2.2.2.2.2.2.2.2.2.1 rfl rfl ?_
                refine xr_iload (n := 126) (j := 0) C dd_X9_check_4.2.2.2.2.2.2.2.2.2.2.2.2.2.1 rfl rfl ?_
                refine xr_icmp_eq (tgt := 131) (n := 129) C dd_X9_check_4.2.2.2.2.2.2.2.2.2.2.2.2.2.2.1 rfl rfl (fun c_41 => ?_) (fun c_41 => ?_)
                · replace hR := yf_t c_41 hR
                  refine xr_aload_n (n := 132) (j := 1) C dd_X9_check_5.2.1 rfl rfl ?_
                  refine xr_get (n := 135) C 0 rfl rfl 14 (by decide) in_X9 u_1251 rfl (v := .ref gR) rfl dd_X9_check_5.2.2.1 rfl ?_
                  refine xr_iload_n (n := 136) (j := 2) C dd_X9_check_5.2.2.2.1 rfl rfl ?_
                  obtain ⟨g_42, hR⟩ := yf_g hR
                  refine xr_aald (n := 137) C 1 0 rfl 3 rfl rfl g_42 rfl dd_X9_check_5.2.2.2.2.1 rfl ?_
                  refine xr_iload_n (n := 138) (j := 3) C dd_X9_check_5.2.2.2.2.2.1 rfl rfl ?_
                  refine xr_dup2 (n := 139) C dd_X9_check_5.2.2.2.2.2.2.1 rfl rfl rfl ?_
                  obtain ⟨g_43, hR⟩ := yf_g hR
                  refine xr_ialdg (n := 140) C 2 rfl x_9.toNatClampNeg (ylt g_42) g_43 dd_X9_check_5.2.2.2.2.2.2.2.1 rfl ?_
                  refine xr_iload_n (n := 141) (j := 4) C dd_X9_check_5.2.2.2.2.2.2.2.2.1 rfl rfl ?_
                  refine xr_iadd (n := 142) C dd_X9_check_5.2.2.2.2.2.2.2.2.2.1 rfl ?_
                  obtain ⟨g_44, hR⟩ := yf_g hR
                  refine xr_iastg (n := 143) C 2 rfl x_9.toNatClampNeg (ylt g_42) g_44 [[(g, .inr (11, [.int x_4.2, .ref gw, .ref gB, .ref gK, .ref gU, .ref gS, .int gbe, .int gwo, .long gta, .null, .int glr, .int glc, .int gti, .int ggo, .ref gR, .int gch, .ref gD]))], [(gR, .inl (cy 3, gRn, .inr (.inr (.inr (.inr (yad gRd))))))], xg_rows gRd gRn (cy 1) gRk (upg gRG x_9.toNatClampNeg x_13.toNatClampNeg ((gRG x_9.toNatClampNeg x_13.toNatClampNeg) + r_30))] rfl dd_X9_check_5.2.2.2.2.2.2.2.2.2.2.1 rfl ?_
                  refine xr_iconst (n := 144) (v := 1) C dd_X9_check_5.2.2.2.2.2.2.2.2.2.2.2.1 rfl rfl ?_
                  obtain rfl := Option.some.inj hR
                  exact ret 1 ⟨rfl, rfl⟩ (Nat.le_of_ble_eq_true rfl) (Nat.le_of_ble_eq_true rfl) dd_X9_check_5.2.2.2.2.2.2.2.2.2.2.2.2.1
                · replace hR := yf_f c_41 hR
                  refine xr_iconst (n := 130) (v := 2) C dd_X9_check_4.2.2.2.2.2.2.2.2.2.2.2.2.2.2.2.1 rfl rfl ?_
                  obtain rfl := Option.some.inj hR
                  exact ret 2 ⟨rfl, rfl⟩ (Nat.le_of_ble_eq_true rfl) (Nat.le_of_ble_eq_true rfl) dd_X9_check_5.1
              refine xr_icmp_ne (tgt := 115) (n := 105) C dd_X9_check_4.1 rfl rfl (fun c_45 => ?_) (fun c_45 => ?_)
              · replace hE_40 := yf_f c_45 hE_40
                refine xr_aload_n (n := 116) (j := 1) C dd_X9_check_4.2.2.2.2.2.2.2.1 rfl rfl ?_
                refine xr_iconst (n := 117) (v := 0) C dd_X9_check_4.2.2.2.2.2.2.2.2.1 rfl rfl ?_
                refine xr_iload_n (n := 118) (j := 3) C dd_X9_check_4.2.2.2.2.2.2.2.2.2.1 rfl rfl ?_
                obtain ⟨x_46, hx_46, hE_40⟩ := yf_b hE_40
                refine xr_callVp (n := 121) (As := [.int 0, .int x_13]) (rest := []) C (kX9_off_i l D cy (g := g) (gth := x_4.2) (gw := gw) (gB := gB) (gK := gK) (gU := gU) (gS := gS) (gbe := gbe) (gwo := gwo) (gta := gta) (glr := glr) (glc := glc) (gti := gti) (ggo := ggo) (gR := gR) (gch := gch) (gD := gD) (gRd := gRd) (gRn := gRn) (gRk := gRk) (gRG := gRG) (i1 := 0) (i2 := x_13) hx_46) mX9_off u_1500 u_1502 u_47 0 rfl rfl 3 [0, 1, 2] [] rfl (by decide +kernel) rfl rfl rfl rfl (Nat.le_of_ble_eq_true rfl) (Nat.le_of_ble_eq_true rfl) (Nat.le_of_ble_eq_true rfl) (Nat.le_of_ble_eq_true rfl) (Nat.le_of_ble_eq_true rfl) dd_X9_check_4.2.2.2.2.2.2.2.2.2.2.1 rfl (fun _ _ hp => hp.2) (fun v_47 hp_49 => ?_)
                obtain ⟨rfl, -⟩ := hp_49
                refine xr_st (st' := [.int x_46]) rfl ?_
                refine xr_lv (lv' := [(0, .ref g), (1, .int x_9), (2, .int x_13), (3, .int r_30)]) [1, 2, 3, 0] rfl ?_
                have e_50 := Option.some.inj hE_40
                subst e_50
                exact J_40
              · replace hE_40 := yf_t c_45 hE_40
                refine xr_aload_n (n := 106) (j := 1) C dd_X9_check_4.2.1 rfl rfl ?_
                refine xr_iconst (n := 107) (v := 0) C dd_X9_check_4.2.2.1 rfl rfl ?_
                refine xr_iload_n (n := 108) (j := 3) C dd_X9_check_4.2.2.2.1 rfl rfl ?_
                obtain ⟨x_51, hx_51, hE_40⟩ := yf_b hE_40
                refine xr_callVp (n := 111) (As := [.int 0, .int x_13]) (rest := []) C (kX9_off_i l D cy (g := g) (gth := x_4.2) (gw := gw) (gB := gB) (gK := gK) (gU := gU) (gS := gS) (gbe := gbe) (gwo := gwo) (gta := gta) (glr := glr) (glc := glc) (gti := gti) (ggo := ggo) (gR := gR) (gch := gch) (gD := gD) (gRd := gRd) (gRn := gRn) (gRk := gRk) (gRG := gRG) (i1 := 0) (i2 := x_13) hx_51) mX9_off u_1500 u_1502 u_47 0 rfl rfl 3 [0, 1, 2] [] rfl (by decide +kernel) rfl rfl rfl rfl (Nat.le_of_ble_eq_true rfl) (Nat.le_of_ble_eq_true rfl) (Nat.le_of_ble_eq_true rfl) (Nat.le_of_ble_eq_true rfl) (Nat.le_of_ble_eq_true rfl) dd_X9_check_4.2.2.2.2.1 rfl (fun _ _ hp => hp.2) (fun v_52 hp_54 => ?_)
                obtain ⟨rfl, -⟩ := hp_54
                refine xr_st (st' := [.int x_51]) rfl ?_
                refine xr_ineg (n := 112) C dd_X9_check_4.2.2.2.2.2.1 rfl ?_
                refine xr_goto (tgt := 121) C dd_X9_check_4.2.2.2.2.2.2.1 rfl ?_
                refine xr_lv (lv' := [(0, .ref g), (1, .int x_9), (2, .int x_13), (3, .int r_30)]) [1, 2, 3, 0] rfl ?_
                have e_55 := Option.some.inj hE_40
                subst e_55
                exact J_40
            refine xr_icmp_ne (tgt := 87) (n := 77) C dd_X9_check_2.2.2.2.2.2.2.2.2.2.2.2.2.2.2.1 rfl rfl (fun c_56 => ?_) (fun c_56 => ?_)
            · replace hE_30 := yf_f c_56 hE_30
              refine xr_aload_n (n := 88) (j := 2) C dd_X9_check_3.2.2.2.2.2.1 rfl rfl ?_
              refine xr_iconst (n := 89) (v := 1) C dd_X9_check_3.2.2.2.2.2.2.1 rfl rfl ?_
              refine xr_iload_n (n := 90) (j := 1) C dd_X9_check_3.2.2.2.2.2.2.2.1 rfl rfl ?_
              obtain ⟨x_57, hx_57, hE_30⟩ := yf_b hE_30
              refine xr_callVp (n := 93) (As := [.int 1, .int x_9]) (rest := []) C (kX9_off_i l D cy (g := g) (gth := x_4.2) (gw := gw) (gB := gB) (gK := gK) (gU := gU) (gS := gS) (gbe := gbe) (gwo := gwo) (gta := gta) (glr := glr) (glc := glc) (gti := gti) (ggo := ggo) (gR := gR) (gch := gch) (gD := gD) (gRd := gRd) (gRn := gRn) (gRk := gRk) (gRG := gRG) (i1 := 1) (i2 := x_9) hx_57) mX9_off u_1500 u_1502 u_47 0 rfl rfl 3 [0, 1, 2] [] rfl (by decide +kernel) rfl rfl rfl rfl (Nat.le_of_ble_eq_true rfl) (Nat.le_of_ble_eq_true rfl) (Nat.le_of_ble_eq_true rfl) (Nat.le_of_ble_eq_true rfl) (Nat.le_of_ble_eq_true rfl) dd_X9_check_3.2.2.2.2.2.2.2.2.1 rfl (fun _ _ hp => hp.2) (fun v_58 hp_60 => ?_)
              obtain ⟨rfl, -⟩ := hp_60
              refine xr_st (st' := [.int x_57]) rfl ?_
              refine xr_lv (lv' := [(0, .ref g), (1, .int x_9), (2, .int x_13)]) [2, 1, 0] rfl ?_
              have e_61 := Option.some.inj hE_30
              subst e_61
              exact J_30
            · replace hE_30 := yf_t c_56 hE_30
              refine xr_aload_n (n := 78) (j := 2) C dd_X9_check_2.2.2.2.2.2.2.2.2.2.2.2.2.2.2.2.1 rfl rfl ?_
              refine xr_iconst (n := 79) (v := 1) C dd_X9_check_3.1 rfl rfl ?_
              refine xr_iload_n (n := 80) (j := 1) C dd_X9_check_3.2.1 rfl rfl ?_
              obtain ⟨x_62, hx_62, hE_30⟩ := yf_b hE_30
              refine xr_callVp (n := 83) (As := [.int 1, .int x_9]) (rest := []) C (kX9_off_i l D cy (g := g) (gth := x_4.2) (gw := gw) (gB := gB) (gK := gK) (gU := gU) (gS := gS) (gbe := gbe) (gwo := gwo) (gta := gta) (glr := glr) (glc := glc) (gti := gti) (ggo := ggo) (gR := gR) (gch := gch) (gD := gD) (gRd := gRd) (gRn := gRn) (gRk := gRk) (gRG := gRG) (i1 := 1) (i2 := x_9) hx_62) mX9_off u_1500 u_1502 u_47 0 rfl rfl 3 [0, 1, 2] [] rfl (by decide +kernel) rfl rfl rfl rfl (Nat.le_of_ble_eq_true rfl) (Nat.le_of_ble_eq_true rfl) (Nat.le_of_ble_eq_true rfl) (Nat.le_of_ble_eq_true rfl) (Nat.le_of_ble_eq_true rfl) dd_X9_check_3.2.2.1 rfl (fun _ _ hp => hp.2) (fun v_63 hp_65 => ?_)
              obtain ⟨rfl, -⟩ := hp_65
              refine xr_st (st' := [.int x_62]) rfl ?_
              refine xr_ineg (n := 84) C dd_X9_check_3.2.2.2.1 rfl ?_
              refine xr_goto (tgt := 93) C dd_X9_check_3.2.2.2.2.1 rfl ?_
              refine xr_lv (lv' := [(0, .ref g), (1, .int x_9), (2, .int x_13)]) [2, 1, 0] rfl ?_
              have e_66 := Option.some.inj hE_30
              subst e_66
              exact J_30
          · replace hR := yf_f c_19 hR
            refine xr_iconst (n := 63) (v := 2) C dd_X9_check_2.2.2.2.2.1 rfl rfl ?_
            obtain rfl := Option.some.inj hR
            exact ret 2 ⟨rfl, rfl⟩ (Nat.le_of_ble_eq_true rfl) (Nat.le_of_ble_eq_true rfl) dd_X9_check_2.2.2.2.2.2.1
      · replace hR := yf_t c_17 hR
        refine xr_iload_n (n := 48) (j := 0) C dd_X9_check_1.2.2.2.2.2.2.2.2.2.2.2.1 rfl rfl ?_
        refine xr_iconst (n := 49) (v := -1) C dd_X9_check_1.2.2.2.2.2.2.2.2.2.2.2.2.1 rfl rfl ?_
        refine xr_icmp_ne (tgt := 54) (n := 52) C dd_X9_check_1.2.2.2.2.2.2.2.2.2.2.2.2.2.1 rfl rfl (fun c_67 => ?_) (fun c_67 => ?_)
        · replace hR := yf_f c_67 hR
          refine xr_iload_n (n := 55) (j := 1) C dd_X9_check_2.1 rfl rfl ?_
          refine xr_if_lt (tgt := 62) (n := 58) C dd_X9_check_2.2.1 rfl rfl (fun c_68 => ?_) (fun c_68 => ?_)
          · replace hR := yf_t c_68 hR
            refine xr_iconst (n := 63) (v := 2) C dd_X9_check_2.2.2.2.2.1 rfl rfl ?_
            obtain rfl := Option.some.inj hR
            exact ret 2 ⟨rfl, rfl⟩ (Nat.le_of_ble_eq_true rfl) (Nat.le_of_ble_eq_true rfl) dd_X9_check_2.2.2.2.2.2.1
          · replace hR := yf_f c_68 hR
            refine xr_iload_n (n := 59) (j := 0) C dd_X9_check_2.2.2.1 rfl rfl ?_
            refine xr_if_ge (tgt := 64) (n := 62) C dd_X9_check_2.2.2.2.1 rfl rfl (fun c_69 => ?_) (fun c_69 => ?_)
            · replace hR := yf_t c_69 hR
              refine xr_iload_n (n := 65) (j := 0) C dd_X9_check_2.2.2.2.2.2.2.1 rfl rfl ?_
              refine xr_aload_n (n := 66) (j := 2) C dd_X9_check_2.2.2.2.2.2.2.2.1 rfl rfl ?_
              refine xr_get (n := 69) C 0 rfl rfl 14 (by decide) in_X9 u_1251 rfl (v := .ref gR) rfl dd_X9_check_2.2.2.2.2.2.2.2.2.1 rfl ?_
              refine xr_iconst (n := 70) (v := 0) C dd_X9_check_2.2.2.2.2.2.2.2.2.2.1 rfl rfl ?_
              obtain ⟨g_70, hR⟩ := yf_g hR
              refine xr_aald (n := 71) C 1 0 rfl 3 rfl rfl g_70 rfl dd_X9_check_2.2.2.2.2.2.2.2.2.2.2.1 rfl ?_
              refine xr_aleng (n := 72) C 2 1 rfl ((0 : Int32).toNatClampNeg) (ylt g_70) rfl dd_X9_check_2.2.2.2.2.2.2.2.2.2.2.2.1 rfl ?_
              refine xr_iconst (n := 73) (v := 1) C dd_X9_check_2.2.2.2.2.2.2.2.2.2.2.2.2.1 rfl rfl ?_
              refine xr_isub (n := 74) C dd_X9_check_2.2.2.2.2.2.2.2.2.2.2.2.2.2.1 rfl ?_
              obtain ⟨r_80, hE_80, hR⟩ := yf_b hR
              have J_80 : X p l e (yR 4 0 0) s m args below meth c D A H0 5 Q [[(g, .inr (11, [.int x_4.2, .ref gw, .ref gB, .ref gK, .ref gU, .ref gS, .int gbe, .int gwo, .long gta, .null, .int glr, .int glc, .int gti, .int ggo, .ref gR, .int gch, .ref gD]))], [(gR, .inl (cy 3, gRn, .inr (.inr (.inr (.inr (yad gRd))))))], xg_rows gRd gRn (cy 1) gRk gRG] 0 0 [(0, .ref g), (1, .int x_9), (2, .int x_13)] 93 [.int r_80] := by
                refine xr_istore_n (n := 94) C [(3, .int r_80), (0, .ref g), (1, .int x_9), (2, .int x_13)] dd_X9_check_3.2.2.2.2.2.2.2.2.2.1 (by decide) rfl rfl ?_
                refine xr_iload_n (n := 95) (j := 2) C dd_X9_check_3.2.2.2.2.2.2.2.2.2.2.1 rfl rfl ?_
                refine xr_aload_n (n := 96) (j := 1) C dd_X9_check_3.2.2.2.2.2.2.2.2.2.2.2.1 rfl rfl ?_
                refine xr_get (n := 99) C 0 rfl rfl 14 (by decide) in_X9 u_1251 rfl (v := .ref gR) rfl dd_X9_check_3.2.2.2.2.2.2.2.2.2.2.2.2.1 rfl ?_
                refine xr_alen (n := 100) C 1 0 rfl 3 rfl rfl dd_X9_check_3.2.2.2.2.2.2.2.2.2.2.2.2.2.1 rfl ?_
                refine xr_iconst (n := 101) (v := 1) C dd_X9_check_3.2.2.2.2.2.2.2.2.2.2.2.2.2.2.1 rfl rfl ?_
                refine xr_isub (n := 102) C dd_X9_check_3.2.2.2.2.2.2.2.2.2.2.2.2.2.2.2.1 rfl ?_
                obtain ⟨r_90, hE_90, hR⟩ := yf_b hR
                have J_90 : X p l e (yR 4 0 0) s m args below meth c D A H0 5 Q [[(g, .inr (11, [.int x_4.2, .ref gw, .ref gB, .ref gK, .ref gU, .ref gS, .int gbe, .int gwo, .long gta, .null, .int glr, .int glc, .int gti, .int ggo, .ref gR, .int gch, .ref gD]))], [(gR, .inl (cy 3, gRn, .inr (.inr (.inr (.inr (yad gRd))))))], xg_rows gRd gRn (cy 1) gRk gRG] 0 0 [(0, .ref g), (1, .int x_9), (2, .int x_13), (3, .int r_80)] 121 [.int r_90] := by
                  refine xr_istore (n := 123) C [(4, .int r_90), (0, .ref g), (1, .int x_9), (2, .int x_13), (3, .int r_80)] dd_X9_check_4.2.2.2.2.2.2.2.2.2.2.2.1 (by decide) rfl rfl ?_
                  refine xr_iload_n (n := 124) (j := 4) C dd_X9_check_4.2.2.2.2.2.2.2.2.2.2.2.2.1 rfl rfl ?_
                  refine xr_iload (n := 126) (j := 0) C dd_X9_check_4.2.2.2.2.2.2.2.2.2.2.2.2.2.1 rfl rfl ?_
                  refine xr_icmp_eq (tgt := 131) (n := 129) C dd_X9_check_4.2.2.2.2.2.2.2.2.2.2.2.2.2.2.1 rfl rfl (fun c_91 => ?_) (fun c_91 => ?_)
                  · replace hR := yf_t c_91 hR
                    refine xr_aload_n (n := 132) (j := 1) C dd_X9_check_5.2.1 rfl rfl ?_
                    refine xr_get (n := 135) C 0 rfl rfl 14 (by decide) in_X9 u_1251 rfl (v := .ref gR) rfl dd_X9_check_5.2.2.1 rfl ?_
                    refine xr_iload_n (n := 136) (j := 2) C dd_X9_check_5.2.2.2.1 rfl rfl ?_
                    obtain ⟨g_92, hR⟩ := yf_g hR
                    refine xr_aald (n := 137) C 1 0 rfl 3 rfl rfl g_92 rfl dd_X9_check_5.2.2.2.2.1 rfl ?_
                    refine xr_iload_n (n := 138) (j := 3) C dd_X9_check_5.2.2.2.2.2.1 rfl rfl ?_
                    refine xr_dup2 (n := 139) C dd_X9_check_5.2.2.2.2.2.2.1 rfl rfl rfl ?_
                    obtain ⟨g_93, hR⟩ := yf_g hR
                    refine xr_ialdg (n := 140) C 2 rfl x_9.toNatClampNeg (ylt g_92) g_93 dd_X9_check_5.2.2.2.2.2.2.2.1 rfl ?_
                    refine xr_iload_n (n := 141) (j := 4) C dd_X9_check_5.2.2.2.2.2.2.2.2.1 rfl rfl ?_
                    refine xr_iadd (n := 142) C dd_X9_check_5.2.2.2.2.2.2.2.2.2.1 rfl ?_
                    obtain ⟨g_94, hR⟩ := yf_g hR
                    refine xr_iastg (n := 143) C 2 rfl x_9.toNatClampNeg (ylt g_92) g_94 [[(g, .inr (11, [.int x_4.2, .ref gw, .ref gB, .ref gK, .ref gU, .ref gS, .int gbe, .int gwo, .long gta, .null, .int glr, .int glc, .int gti, .int ggo, .ref gR, .int gch, .ref gD]))], [(gR, .inl (cy 3, gRn, .inr (.inr (.inr (.inr (yad gRd))))))], xg_rows gRd gRn (cy 1) gRk (upg gRG x_9.toNatClampNeg x_13.toNatClampNeg ((gRG x_9.toNatClampNeg x_13.toNatClampNeg) + r_80))] rfl dd_X9_check_5.2.2.2.2.2.2.2.2.2.2.1 rfl ?_
                    refine xr_iconst (n := 144) (v := 1) C dd_X9_check_5.2.2.2.2.2.2.2.2.2.2.2.1 rfl rfl ?_
                    obtain rfl := Option.some.inj hR
                    exact ret 1 ⟨rfl, rfl⟩ (Nat.le_of_ble_eq_true rfl) (Nat.le_of_ble_eq_true rfl) dd_X9_check_5.2.2.2.2.2.2.2.2.2.2.2.2.1
                  · replace hR := yf_f c_91 hR
                    refine xr_iconst (n := 130) (v := 2) C dd_X9_check_4.2.2.2.2.2.2.2.2.2.2.2.2.2.2.2.1 rfl rfl ?_
                    obtain rfl := Option.some.inj hR
                    exact ret 2 ⟨rfl, rfl⟩ (Nat.le_of_ble_eq_true rfl) (Nat.le_of_ble_eq_true rfl) dd_X9_check_5.1
                refine xr_icmp_ne (tgt := 115) (n := 105) C dd_X9_check_4.1 rfl rfl (fun c_95 => ?_) (fun c_95 => ?_)
                · replace hE_90 := yf_f c_95 hE_90
                  refine xr_aload_n (n := 116) (j := 1) C dd_X9_check_4.2.2.2.2.2.2.2.1 rfl rfl ?_
                  refine xr_iconst (n := 117) (v := 0) C dd_X9_check_4.2.2.2.2.2.2.2.2.1 rfl rfl ?_
                  refine xr_iload_n (n := 118) (j := 3) C dd_X9_check_4.2.2.2.2.2.2.2.2.2.1 rfl rfl ?_
                  obtain ⟨x_96, hx_96, hE_90⟩ := yf_b hE_90
                  refine xr_callVp (n := 121) (As := [.int 0, .int x_13]) (rest := []) C (kX9_off_i l D cy (g := g) (gth := x_4.2) (gw := gw) (gB := gB) (gK := gK) (gU := gU) (gS := gS) (gbe := gbe) (gwo := gwo) (gta := gta) (glr := glr) (glc := glc) (gti := gti) (ggo := ggo) (gR := gR) (gch := gch) (gD := gD) (gRd := gRd) (gRn := gRn) (gRk := gRk) (gRG := gRG) (i1 := 0) (i2 := x_13) hx_96) mX9_off u_1500 u_1502 u_47 0 rfl rfl 3 [0, 1, 2] [] rfl (by decide +kernel) rfl rfl rfl rfl (Nat.le_of_ble_eq_true rfl) (Nat.le_of_ble_eq_true rfl) (Nat.le_of_ble_eq_true rfl) (Nat.le_of_ble_eq_true rfl) (Nat.le_of_ble_eq_true rfl) dd_X9_check_4.2.2.2.2.2.2.2.2.2.2.1 rfl (fun _ _ hp => hp.2) (fun v_97 hp_99 => ?_)
                  obtain ⟨rfl, -⟩ := hp_99
                  refine xr_st (st' := [.int x_96]) rfl ?_
                  refine xr_lv (lv' := [(0, .ref g), (1, .int x_9), (2, .int x_13), (3, .int r_80)]) [1, 2, 3, 0] rfl ?_
                  have e_100 := Option.some.inj hE_90
                  subst e_100
                  exact J_90
                · replace hE_90 := yf_t c_95 hE_90
                  refine xr_aload_n (n := 106) (j := 1) C dd_X9_check_4.2.1 rfl rfl ?_
                  refine xr_iconst (n := 107) (v := 0) C dd_X9_check_4.2.2.1 rfl rfl ?_
                  refine xr_iload_n (n := 108) (j := 3) C dd_X9_check_4.2.2.2.1 rfl rfl ?_
                  obtain ⟨x_101, hx_101, hE_90⟩ := yf_b hE_90
                  refine xr_callVp (n := 111) (As := [.int 0, .int x_13]) (rest := []) C (kX9_off_i l D cy (g := g) (gth := x_4.2) (gw := gw) (gB := gB) (gK := gK) (gU := gU) (gS := gS) (gbe := gbe) (gwo := gwo) (gta := gta) (glr := glr) (glc := glc) (gti := gti) (ggo := ggo) (gR := gR) (gch := gch) (gD := gD) (gRd := gRd) (gRn := gRn) (gRk := gRk) (gRG := gRG) (i1 := 0) (i2 := x_13) hx_101) mX9_off u_1500 u_1502 u_47 0 rfl rfl 3 [0, 1, 2] [] rfl (by decide +kernel) rfl rfl rfl rfl (Nat.le_of_ble_eq_true rfl) (Nat.le_of_ble_eq_true rfl) (Nat.le_of_ble_eq_true rfl) (Nat.le_of_ble_eq_true rfl) (Nat.le_of_ble_eq_true rfl) dd_X9_check_4.2.2.2.2.1 rfl (fun _ _ hp => hp.2) (fun v_102 hp_104 => ?_)
                  obtain ⟨rfl, -⟩ := hp_104
                  refine xr_st (st' := [.int x_101]) rfl ?_
                  refine xr_ineg (n := 112) C dd_X9_check_4.2.2.2.2.2.1 rfl ?_
                  refine xr_goto (tgt := 121) C dd_X9_check_4.2.2.2.2.2.2.1 rfl ?_
                  refine xr_lv (lv' := [(0, .ref g), (1, .int x_9), (2, .int x_13), (3, .int r_80)]) [1, 2, 3, 0] rfl ?_
                  have e_105 := Option.some.inj hE_90
                  subst e_105
                  exact J_90
              refine xr_icmp_ne (tgt := 87) (n := 77) C dd_X9_check_2.2.2.2.2.2.2.2.2.2.2.2.2.2.2.1 rfl rfl (fun c_106 => ?_) (fun c_106 => ?_)
              · replace hE_80 := yf_f c_106 hE_80
                refine xr_aload_n (n := 88) (j := 2) C dd_X9_check_3.2.2.2.2.2.1 rfl rfl ?_
                refine xr_iconst (n := 89) (v := 1) C dd_X9_check_3.2.2.2.2.2.2.1 rfl rfl ?_
                refine xr_iload_n (n := 90) (j := 1) C dd_X9_check_3.2.2.2.2.2.2.2.1 rfl rfl ?_
                obtain ⟨x_107, hx_107, hE_80⟩ := yf_b hE_80
                refine xr_callVp (n := 93) (As := [.int 1, .int x_9]) (rest := []) C (kX9_off_i l D cy (g := g) (gth := x_4.2) (gw := gw) (gB := gB) (gK := gK) (gU := gU) (gS := gS) (gbe := gbe) (gwo := gwo) (gta := gta) (glr := glr) (glc := glc) (gti := gti) (ggo := ggo) (gR := gR) (gch := gch) (gD := gD) (gRd := gRd) (gRn := gRn) (gRk := gRk) (gRG := gRG) (i1 := 1) (i2 := x_9) hx_107) mX9_off u_1500 u_1502 u_47 0 rfl rfl 3 [0, 1, 2] [] rfl (by decide +kernel) rfl rfl rfl rfl (Nat.le_of_ble_eq_true rfl) (Nat.le_of_ble_eq_true rfl) (Nat.le_of_ble_eq_true rfl) (Nat.le_of_ble_eq_true rfl) (Nat.le_of_ble_eq_true rfl) dd_X9_check_3.2.2.2.2.2.2.2.2.1 rfl (fun _ _ hp => hp.2) (fun v_108 hp_110 => ?_)
                obtain ⟨rfl, -⟩ := hp_110
                refine xr_st (st' := [.int x_107]) rfl ?_
                refine xr_lv (lv' := [(0, .ref g), (1, .int x_9), (2, .int x_13)]) [2, 1, 0] rfl ?_
                have e_111 := Option.some.inj hE_80
                subst e_111
                exact J_80
              · replace hE_80 := yf_t c_106 hE_80
                refine xr_aload_n (n := 78) (j := 2) C dd_X9_check_2.2.2.2.2.2.2.2.2.2.2.2.2.2.2.2.1 rfl rfl ?_
                refine xr_iconst (n := 79) (v := 1) C dd_X9_check_3.1 rfl rfl ?_
                refine xr_iload_n (n := 80) (j := 1) C dd_X9_check_3.2.1 rfl rfl ?_
                obtain ⟨x_112, hx_112, hE_80⟩ := yf_b hE_80
                refine xr_callVp (n := 83) (As := [.int 1, .int x_9]) (rest := []) C (kX9_off_i l D cy (g := g) (gth := x_4.2) (gw := gw) (gB := gB) (gK := gK) (gU := gU) (gS := gS) (gbe := gbe) (gwo := gwo) (gta := gta) (glr := glr) (glc := glc) (gti := gti) (ggo := ggo) (gR := gR) (gch := gch) (gD := gD) (gRd := gRd) (gRn := gRn) (gRk := gRk) (gRG := gRG) (i1 := 1) (i2 := x_9) hx_112) mX9_off u_1500 u_1502 u_47 0 rfl rfl 3 [0, 1, 2] [] rfl (by decide +kernel) rfl rfl rfl rfl (Nat.le_of_ble_eq_true rfl) (Nat.le_of_ble_eq_true rfl) (Nat.le_of_ble_eq_true rfl) (Nat.le_of_ble_eq_true rfl) (Nat.le_of_ble_eq_true rfl) dd_X9_check_3.2.2.1 rfl (fun _ _ hp => hp.2) (fun v_113 hp_115 => ?_)
                obtain ⟨rfl, -⟩ := hp_115
                refine xr_st (st' := [.int x_112]) rfl ?_
                refine xr_ineg (n := 84) C dd_X9_check_3.2.2.2.1 rfl ?_
                refine xr_goto (tgt := 93) C dd_X9_check_3.2.2.2.2.1 rfl ?_
                refine xr_lv (lv' := [(0, .ref g), (1, .int x_9), (2, .int x_13)]) [2, 1, 0] rfl ?_
                have e_116 := Option.some.inj hE_80
                subst e_116
                exact J_80
            · replace hR := yf_f c_69 hR
              refine xr_iconst (n := 63) (v := 2) C dd_X9_check_2.2.2.2.2.1 rfl rfl ?_
              obtain rfl := Option.some.inj hR
              exact ret 2 ⟨rfl, rfl⟩ (Nat.le_of_ble_eq_true rfl) (Nat.le_of_ble_eq_true rfl) dd_X9_check_2.2.2.2.2.2.1
        · replace hR := yf_t c_67 hR
          refine xr_iconst (n := 53) (v := 0) C dd_X9_check_1.2.2.2.2.2.2.2.2.2.2.2.2.2.2.1 rfl rfl ?_
          obtain rfl := Option.some.inj hR
          exact ret 0 ⟨rfl, rfl⟩ (Nat.le_of_ble_eq_true rfl) (Nat.le_of_ble_eq_true rfl) dd_X9_check_1.2.2.2.2.2.2.2.2.2.2.2.2.2.2.2.1
    · replace hR := yf_f c_8 hR
      refine xr_iconst (n := 29) (v := 0) C dd_X9_check_0.2.2.2.2.2.2.2.2.2.2.2.2.2.2.1 rfl rfl ?_
      obtain rfl := Option.some.inj hR
      exact ret 0 ⟨rfl, rfl⟩ (Nat.le_of_ble_eq_true rfl) (Nat.le_of_ble_eq_true rfl) dd_X9_check_0.2.2.2.2.2.2.2.2.2.2.2.2.2.2.2.1
  refine xr_if_eq (tgt := 16) (n := 9) C dd_X9_check_0.2.2.2.2.1 rfl rfl (fun c_117 => ?_) (fun c_117 => ?_)
  · replace hE_3 := yf_t c_117 hE_3
    refine xr_iconst (n := 17) (v := 1) C dd_X9_check_0.2.2.2.2.2.2.2.2.1 rfl rfl ?_
    refine xr_goto (tgt := 21) C dd_X9_check_0.2.2.2.2.2.2.2.2.2.1 rfl ?_
    have e_118 := Option.some.inj hE_3
    subst e_118
    exact J_3
  · replace hE_3 := yf_f c_117 hE_3
    refine xr_aload_n (n := 10) (j := 0) C dd_X9_check_0.2.2.2.2.2.1 rfl rfl ?_
    refine xr_get (n := 13) C 0 rfl rfl 15 (by decide) in_X9 u_1252 rfl (v := .int gch) rfl dd_X9_check_0.2.2.2.2.2.2.1 rfl ?_
    refine xr_if_ne (tgt := 20) (n := 16) C dd_X9_check_0.2.2.2.2.2.2.2.1 rfl rfl (fun c_119 => ?_) (fun c_119 => ?_)
    · replace hE_3 := yf_f c_119 hE_3
      refine xr_iconst (n := 21) (v := 0) C dd_X9_check_0.2.2.2.2.2.2.2.2.2.2.1 rfl rfl ?_
      have e_120 := Option.some.inj hE_3
      subst e_120
      exact J_3
    · replace hE_3 := yf_t c_119 hE_3
      refine xr_iconst (n := 17) (v := 1) C dd_X9_check_0.2.2.2.2.2.2.2.2.1 rfl rfl ?_
      refine xr_goto (tgt := 21) C dd_X9_check_0.2.2.2.2.2.2.2.2.2.1 rfl ?_
      have e_121 := Option.some.inj hE_3
      subst e_121
      exact J_3
def fX9_check_r (gch : Int32) (gRn : Nat) (gRk : Nat) (gRG : Nat → Nat → Int32) : Option (Int32 × Int32 × (Nat → Nat → Int32)) := ((((if (nI gRn) = 0 then some 1 else (if gch = 0 then some 1 else some 0)) : Option (Int32))).bind fun r_3 => ((fX9_start_r r_3 1).bind fun x_4 => (if x_4.1 = 0 then ((fX9_severalOr_r gRn gRk gRG 1).bind fun x_9 => ((fX9_severalOr_r gRn gRk gRG 0).bind fun x_13 => (if x_9 = (-1) then (if x_13 = (-1) then some (0, x_4.2, gRG) else (if x_9 < 0 then some (2, x_4.2, gRG) else (if 0 ≤ x_13 then (if ¬ ((0 : Int32) < 0 ∨ gRn ≤ (0 : Int32).toNatClampNeg) then ((((if x_13 = ((nI gRk) - 1) then ((fX9_off_r gRn gRk gRG 1 x_9).bind fun x_112 => some (-x_112)) else ((fX9_off_r gRn gRk gRG 1 x_9).bind fun x_107 => some x_107)) : Option (Int32))).bind fun r_80 => ((((if x_9 = ((nI gRn) - 1) then ((fX9_off_r gRn gRk gRG 0 x_13).bind fun x_101 => some (-x_101)) else ((fX9_off_r gRn gRk gRG 0 x_13).bind fun x_96 => some x_96)) : Option (Int32))).bind fun r_90 => (if r_80 = r_90 then (if ¬ (x_9 < 0 ∨ gRn ≤ x_9.toNatClampNeg) then (if ¬ (x_13 < 0 ∨ gRk ≤ x_13.toNatClampNeg) then (if ¬ (x_13 < 0 ∨ gRk ≤ x_13.toNatClampNeg) then some (1, x_4.2, upg gRG x_9.toNatClampNeg x_13.toNatClampNeg ((gRG x_9.toNatClampNeg x_13.toNatClampNeg) + r_80)) else none) else none) else none) else some (2, x_4.2, gRG)))) else none) else some (2, x_4.2, gRG)))) else (if x_9 < 0 then some (2, x_4.2, gRG) else (if 0 ≤ x_13 then (if ¬ ((0 : Int32) < 0 ∨ gRn ≤ (0 : Int32).toNatClampNeg) then ((((if x_13 = ((nI gRk) - 1) then ((fX9_off_r gRn gRk gRG 1 x_9).bind fun x_62 => some (-x_62)) else ((fX9_off_r gRn gRk gRG 1 x_9).bind fun x_57 => some x_57)) : Option (Int32))).bind fun r_30 => ((((if x_9 = ((nI gRn) - 1) then ((fX9_off_r gRn gRk gRG 0 x_13).bind fun x_51 => some (-x_51)) else ((fX9_off_r gRn gRk gRG 0 x_13).bind fun x_46 => some x_46)) : Option (Int32))).bind fun r_40 => (if r_30 = r_40 then (if ¬ (x_9 < 0 ∨ gRn ≤ x_9.toNatClampNeg) then (if ¬ (x_13 < 0 ∨ gRk ≤ x_13.toNatClampNeg) then (if ¬ (x_13 < 0 ∨ gRk ≤ x_13.toNatClampNeg) then some (1, x_4.2, upg gRG x_9.toNatClampNeg x_13.toNatClampNeg ((gRG x_9.toNatClampNeg x_13.toNatClampNeg) + r_30)) else none) else none) else none) else some (2, x_4.2, gRG)))) else none) else some (2, x_4.2, gRG)))))) else some (0, x_4.2, gRG))))
set_option maxHeartbeats 4000000 in
set_option maxRecDepth 100000 in
theorem kX9_check_r (l : Launch) (D : va_G) (cy : Nat → ClassId) (g : Nat) (gth : Int32) (gw : Nat) (gB : Nat) (gK : Nat) (gU : Nat) (gS : Nat) (gbe : Int32) (gwo : Int32) (gta : Int64) (gn : Nat) (glr : Int32) (glc : Int32) (gti : Int32) (ggo : Int32) (gR : Nat) (gch : Int32) (gD : Nat) (gRd : Nat → Nat) (gRn : Nat) (gRk : Nat) (gRG : Nat → Nat → Int32) {res : Int32 × Int32 × (Nat → Nat → Int32)} (hR : fX9_check_r gch gRn gRk gRG = some res) : YM l D cy yX9_check hX9_check 4 0 0 [.ref g] [[(g, .inr (11, [.int gth, .ref gw, .ref gB, .ref gK, .ref gU, .ref gS, .int gbe, .int gwo, .long gta, .ref gn, .int glr, .int glc, .int gti, .int ggo, .ref gR, .int gch, .ref gD]))], [(gR, .inl (cy 3, gRn, .inr (.inr (.inr (.inr (yad gRd))))))], xg_rows gRd gRn (cy 1) gRk gRG] (fun v u => v = some (.int res.1) ∧ u = [[(g, .inr (11, [.int res.2.1, .ref gw, .ref gB, .ref gK, .ref gU, .ref gS, .int gbe, .int gwo, .long gta, .ref gn, .int glr, .int glc, .int gti, .int ggo, .ref gR, .int gch, .ref gD]))], [(gR, .inl (cy 3, gRn, .inr (.inr (.inr (.inr (yad gRd))))))], xg_rows gRd gRn (cy 1) gRk res.2.2]) := by
  unfold fX9_check_r at hR
  refine YM.ofI (cc := cX9_check) (maxL := 5) (ret := (some .int)) (by decide +kernel) rfl (Nat.le_of_ble_eq_true rfl) [(0, .ref g)] rfl rfl (fun p e s m args below meth c A H0 Q C hnm ret => ?_)
  refine xr_aload_n (n := 1) (j := 0) C dd_X9_check_0.1 rfl rfl ?_
  refine xr_aload_n (n := 2) (j := 0) C dd_X9_check_0.2.1 rfl rfl ?_
  refine xr_get (n := 5) C 0 rfl rfl 14 (by decide) in_X9 u_1251 rfl (v := .ref gR) rfl dd_X9_check_0.2.2.1 rfl ?_
  refine xr_alen (n := 6) C 1 0 rfl 3 rfl rfl dd_X9_check_0.2.2.2.1 rfl ?_
  obtain ⟨r_3, hE_3, hR⟩ := yf_b hR
  have J_3 : X p l e (yR 4 0 0) s m args below meth c D A H0 5 Q [[(g, .inr (11, [.int gth, .ref gw, .ref gB, .ref gK, .ref gU, .ref gS, .int gbe, .int gwo, .long gta, .ref gn, .int glr, .int glc, .int gti, .int ggo, .ref gR, .int gch, .ref gD]))], [(gR, .inl (cy 3, gRn, .inr (.inr (.inr (.inr (yad gRd))))))], xg_rows gRd gRn (cy 1) gRk gRG] 0 0 [(0, .ref g)] 21 [.int r_3, .ref g] := by
    refine xr_iconst (n := 22) (v := 1) C dd_X9_check_0.2.2.2.2.2.2.2.2.2.2.2.1 rfl rfl ?_
    obtain ⟨x_4, hx_4, hR⟩ := yf_b hR
    refine xr_callV (n := 25) (As := [.int r_3, .int 1]) (rest := []) C (kX9_start_r l D cy (g := g) (gth := gth) (gw := gw) (gB := gB) (gK := gK) (gU := gU) (gS := gS) (gbe := gbe) (gwo := gwo) (gta := gta) (gn := gn) (glr := glr) (glc := glc) (gti := gti) (ggo := ggo) (gR := gR) (gch := gch) (gD := gD) (i1 := r_3) (i2 := 1) hx_4) mX9_start u_1301 u_1303 u_29 0 rfl rfl 3 [0] [1, 2] rfl (by decide +kernel) rfl rfl rfl rfl (Nat.le_of_ble_eq_true rfl) (Nat.le_of_ble_eq_true rfl) (Nat.le_of_ble_eq_true rfl) (Nat.le_of_ble_eq_true rfl) (Nat.le_of_ble_eq_true rfl) dd_X9_check_0.2.2.2.2.2.2.2.2.2.2.2.2.1 rfl (fun v_5 u_6 hp_7 => ?_)
    obtain ⟨rfl, rfl⟩ := hp_7
    refine xr_perm C 3 [0, 1, 2] [] [[(g, .inr (11, [.int x_4.2, .ref gw, .ref gB, .ref gK, .ref gU, .ref gS, .int gbe, .int gwo, .long gta, .ref gn, .int glr, .int glc, .int gti, .int ggo, .ref gR, .int gch, .ref gD]))], [(gR, .inl (cy 3, gRn, .inr (.inr (.inr (.inr (yad gRd))))))], xg_rows gRd gRn (cy 1) gRk gRG] rfl (by decide +kernel) rfl ?_
    refine xr_st (st' := [.int x_4.1]) rfl ?_
    refine xr_if_eq (tgt := 30) (n := 28) C dd_X9_check_0.2.2.2.2.2.2.2.2.2.2.2.2.2.1 rfl rfl (fun c_8 => ?_) (fun c_8 => ?_)
    · replace hR := yf_t c_8 hR
      refine xr_aload_n (n := 31) (j := 0) C dd_X9_check_1.1 rfl rfl ?_
      refine xr_iconst (n := 32) (v := 1) C dd_X9_check_1.2.1 rfl rfl ?_
      obtain ⟨x_9, hx_9, hR⟩ := yf_b hR
      refine xr_callVp (n := 35) (As := [.int 1]) (rest := []) C (kX9_severalOr_r l D cy (g := g) (gth := x_4.2) (gw := gw) (gB := gB) (gK := gK) (gU := gU) (gS := gS) (gbe := gbe) (gwo := gwo) (gta := gta) (gn := gn) (glr := glr) (glc := glc) (gti := gti) (ggo := ggo) (gR := gR) (gch := gch) (gD := gD) (gRd := gRd) (gRn := gRn) (gRk := gRk) (gRG := gRG) (i1 := 1) hx_9) mX9_severalOr u_1496 u_1498 u_46 0 rfl rfl 3 [0, 1, 2] [] rfl (by decide +kernel) rfl rfl rfl rfl (Nat.le_of_ble_eq_true rfl) (Nat.le_of_ble_eq_true rfl) (Nat.le_of_ble_eq_true rfl) (Nat.le_of_ble_eq_true rfl) (Nat.le_of_ble_eq_true rfl) dd_X9_check_1.2.2.1 rfl (fun _ _ hp => hp.2) (fun v_10 hp_12 => ?_)
      obtain ⟨rfl, -⟩ := hp_12
      refine xr_st (st' := [.int x_9]) rfl ?_
      refine xr_istore_n (n := 36) C [(1, .int x_9), (0, .ref g)] dd_X9_check_1.2.2.2.1 (by decide) rfl rfl ?_
      refine xr_aload_n (n := 37) (j := 1) C dd_X9_check_1.2.2.2.2.1 rfl rfl ?_
      refine xr_iconst (n := 38) (v := 0) C dd_X9_check_1.2.2.2.2.2.1 rfl rfl ?_
      obtain ⟨x_13, hx_13, hR⟩ := yf_b hR
      refine xr_callVp (n := 41) (As := [.int 0]) (rest := []) C (kX9_severalOr_r l D cy (g := g) (gth := x_4.2) (gw := gw) (gB := gB) (gK := gK) (gU := gU) (gS := gS) (gbe := gbe) (gwo := gwo) (gta := gta) (gn := gn) (glr := glr) (glc := glc) (gti := gti) (ggo := ggo) (gR := gR) (gch := gch) (gD := gD) (gRd := gRd) (gRn := gRn) (gRk := gRk) (gRG := gRG) (i1 := 0) hx_13) mX9_severalOr u_1496 u_1498 u_46 0 rfl rfl 3 [0, 1, 2] [] rfl (by decide +kernel) rfl rfl rfl rfl (Nat.le_of_ble_eq_true rfl) (Nat.le_of_ble_eq_true rfl) (Nat.le_of_ble_eq_true rfl) (Nat.le_of_ble_eq_true rfl) (Nat.le_of_ble_eq_true rfl) dd_X9_check_1.2.2.2.2.2.2.1 rfl (fun _ _ hp => hp.2) (fun v_14 hp_16 => ?_)
      obtain ⟨rfl, -⟩ := hp_16
      refine xr_st (st' := [.int x_13]) rfl ?_
      refine xr_istore_n (n := 42) C [(2, .int x_13), (1, .int x_9), (0, .ref g)] dd_X9_check_1.2.2.2.2.2.2.2.1 (by decide) rfl rfl ?_
      refine xr_iload_n (n := 43) (j := 1) C dd_X9_check_1.2.2.2.2.2.2.2.2.1 rfl rfl ?_
      refine xr_iconst (n := 44) (v := -1) C dd_X9_check_1.2.2.2.2.2.2.2.2.2.1 rfl rfl ?_
      refine xr_icmp_ne (tgt := 54) (n := 47) C dd_X9_check_1.2.2.2.2.2.2.2.2.2.2.1 rfl rfl (fun c_17 => ?_) (fun c_17 => ?_)
      · replace hR := yf_f c_17 hR
        refine xr_iload_n (n := 55) (j := 1) C dd_X9_check_2.1 rfl rfl ?_
        refine xr_if_lt (tgt := 62) (n := 58) C dd_X9_check_2.2.1 rfl rfl (fun c_18 => ?_) (fun c_18 => ?_)
        · replace hR := yf_t c_18 hR
          refine xr_iconst (n := 63) (v := 2) C dd_X9_check_2.2.2.2.2.1 rfl rfl ?_
          obtain rfl := Option.some.inj hR
          exact ret 2 ⟨rfl, rfl⟩ (Nat.le_of_ble_eq_true rfl) (Nat.le_of_ble_eq_true rfl) dd_X9_check_2.2.2.2.2.2.1
        · replace hR := yf_f c_18 hR
          refine xr_iload_n (n := 59) (j := 0) C dd_X9_check_2.2.2.1 rfl rfl ?_
          refine xr_if_ge (tgt := 64) (n := 62) C dd_X9_check_2.2.2.2.1 rfl rfl (fun c_19 => ?_) (fun c_19 => ?_)
          · replace hR := yf_t c_19 hR
            refine xr_iload_n (n := 65) (j := 0) C dd_X9_check_2.2.2.2.2.2.2.1 rfl rfl ?_
            refine xr_aload_n (n := 66) (j := 2) C dd_X9_check_2.2.2.2.2.2.2.2.1 rfl rfl ?_
            refine xr_get (n := 69) C 0 rfl rfl 14 (by decide) in_X9 u_1251 rfl (v := .ref gR) rfl dd_X9_check_2.2.2.2.2.2.2.2.2.1 rfl ?_
            refine xr_iconst (n := 70) (v := 0) C dd_X9_check_2.2.2.2.2.2.2.2.2.2.1 rfl rfl ?_
            obtain ⟨g_20, hR⟩ := yf_g hR
            refine xr_aald (n := 71) C 1 0 rfl 3 rfl rfl g_20 rfl dd_X9_check_2.2.2.2.2.2.2.2.2.2.2.1 rfl ?_
            refine xr_aleng (n := 72) C 2 1 rfl ((0 : Int32).toNatClampNeg) (ylt g_20) rfl dd_X9_check_2.2.2.2.2.2.2.2.2.2.2.2.1 rfl ?_
            refine xr_iconst (n := 73) (v := 1) C dd_X9_check_2.2.2.2.2.2.2.2.2.2.2.2.2.1 rfl rfl ?_
            refine xr_isub (n := 74) C dd_X9_check_2.2.2.2.2.2.2.2.2.2.2.2.2.2.1 rfl ?_
            obtain ⟨r_30, hE_30, hR⟩ := yf_b hR
            have J_30 : X p l e (yR 4 0 0) s m args below meth c D A H0 5 Q [[(g, .inr (11, [.int x_4.2, .ref gw, .ref gB, .ref gK, .ref gU, .ref gS, .int gbe, .int gwo, .long gta, .ref gn, .int glr, .int glc, .int gti, .int ggo, .ref gR, .int gch, .ref gD]))], [(gR, .inl (cy 3, gRn, .inr (.inr (.inr (.inr (yad gRd))))))], xg_rows gRd gRn (cy 1) gRk gRG] 0 0 [(0, .ref g), (1, .int x_9), (2, .int x_13)] 93 [.int r_30] := by
              refine xr_istore_n (n := 94) C [(3, .int r_30), (0, .ref g), (1, .int x_9), (2, .int x_13)] dd_X9_check_3.2.2.2.2.2.2.2.2.2.1 (by decide) rfl rfl ?_
              refine xr_iload_n (n := 95) (j := 2) C dd_X9_check_3.2.2.2.2.2.2.2.2.2.2.1 rfl rfl ?_
              refine xr_aload_n (n := 96) (j := 1) C dd_X9_check_3.2.2.2.2.2.2.2.2.2.2.2.1 rfl rfl ?_
              refine xr_get (n := 99) C 0 rfl rfl 14 (by decide) in_X9 u_1251 rfl (v := .ref gR) rfl dd_X9_check_3.2.2.2.2.2.2.2.2.2.2.2.2.1 rfl ?_
              refine xr_alen (n := 100) C 1 0 rfl 3 rfl rfl dd_X9_check_3.2.2.2.2.2.2.2.2.2.2.2.2.2.1 rfl ?_
              refine xr_iconst (n := 101) (v := 1) C dd_X9_check_3.2.2.2.2.2.2.2.2.2.2.2.2.2.2.1 rfl rfl ?_
              refine xr_isub (n := 102) C dd_X9_check_3.2.2.2.2.2.2.2.2.2.2.2.2.2.2.2.1 rfl ?_
              obtain ⟨r_40, hE_40, hR⟩ := yf_b hR
              have J_40 : X p l e (yR 4 0 0) s m args below meth c D A H0 5 Q [[(g, .inr (11, [.int x_4.2, .ref gw, .ref gB, .ref gK, .ref gU, .ref gS, .int gbe, .int gwo, .long gta, .ref gn, .int glr, .int glc, .int gti, .int ggo, .ref gR, .int gch, .ref gD]))], [(gR, .inl (cy 3, gRn, .inr (.inr (.inr (.inr (yad gRd))))))], xg_rows gRd gRn (cy 1) gRk gRG] 0 0 [(0, .ref g), (1, .int x_9), (2, .int x_13), (3, .int r_30)] 121 [.int r_40] := by
                refine xr_istore (n := 123) C [(4, .int r_40), (0, .ref g), (1, .int x_9), (2, .int x_13), (3, .int r_30)] dd_X9_check_4.2.2.2.2.2.2.2.2.2.2.2.1 (by decide) rfl rfl ?_
                refine xr_iload_n (n := 124) (j := 4) C dd_X9_check_4.2.2.2.2.2.2.2.2.2.2.2.2.1 rfl rfl ?_
                refine xr_iload (n := 126) (j := 0) C dd_X9_check_4.2.2.2.2.2.2.2.2.2.2.2.2.2.1 rfl rfl ?_
                refine xr_icmp_eq (tgt := 131) (n := 129) C dd_X9_check_4.2.2.2.2.2.2.2.2.2.2.2.2.2.2.1 rfl rfl (fun c_41 => ?_) (fun c_41 => ?_)
                · replace hR := yf_t c_41 hR
                  refine xr_aload_n (n := 132) (j := 1) C dd_X9_check_5.2.1 rfl rfl ?_
                  refine xr_get (n := 135) C 0 rfl rfl 14 (by decide) in_X9 u_1251 rfl (v := .ref gR) rfl dd_X9_check_5.2.2.1 rfl ?_
                  refine xr_iload_n (n := 136) (j := 2) C dd_X9_check_5.2.2.2.1 rfl rfl ?_
                  obtain ⟨g_42, hR⟩ := yf_g hR
                  refine xr_aald (n := 137) C 1 0 rfl 3 rfl rfl g_42 rfl dd_X9_check_5.2.2.2.2.1 rfl ?_
                  refine xr_iload_n (n := 138) (j := 3) C dd_X9_check_5.2.2.2.2.2.1 rfl rfl ?_
                  refine xr_dup2 (n := 139) C dd_X9_check_5.2.2.2.2.2.2.1 rfl rfl rfl ?_
                  obtain ⟨g_43, hR⟩ := yf_g hR
                  refine xr_ialdg (n := 140) C 2 rfl x_9.toNatClampNeg (ylt g_42) g_43 dd_X9_check_5.2.2.2.2.2.2.2.1 rfl ?_
                  refine xr_iload_n (n := 141) (j := 4) C dd_X9_check_5.2.2.2.2.2.2.2.2.1 rfl rfl ?_
                  refine xr_iadd (n := 142) C dd_X9_check_5.2.2.2.2.2.2.2.2.2.1 rfl ?_
                  obtain ⟨g_44, hR⟩ := yf_g hR
                  refine xr_iastg (n := 143) C 2 rfl x_9.toNatClampNeg (ylt g_42) g_44 [[(g, .inr (11, [.int x_4.2, .ref gw, .ref gB, .ref gK, .ref gU, .ref gS, .int gbe, .int gwo, .long gta, .ref gn, .int glr, .int glc, .int gti, .int ggo, .ref gR, .int gch, .ref gD]))], [(gR, .inl (cy 3, gRn, .inr (.inr (.inr (.inr (yad gRd))))))], xg_rows gRd gRn (cy 1) gRk (upg gRG x_9.toNatClampNeg x_13.toNatClampNeg ((gRG x_9.toNatClampNeg x_13.toNatClampNeg) + r_30))] rfl dd_X9_check_5.2.2.2.2.2.2.2.2.2.2.1 rfl ?_
                  refine xr_iconst (n := 144) (v := 1) C dd_X9_check_5.2.2.2.2.2.2.2.2.2.2.2.1 rfl rfl ?_
                  obtain rfl := Option.some.inj hR
                  exact ret 1 ⟨rfl, rfl⟩ (Nat.le_of_ble_eq_true rfl) (Nat.le_of_ble_eq_true rfl) dd_X9_check_5.2.2.2.2.2.2.2.2.2.2.2.2.1
                · replace hR := yf_f c_41 hR
                  refine xr_iconst (n := 130) (v := 2) C dd_X9_check_4.2.2.2.2.2.2.2.2.2.2.2.2.2.2.2.1 rfl rfl ?_
                  obtain rfl := Option.some.inj hR
                  exact ret 2 ⟨rfl, rfl⟩ (Nat.le_of_ble_eq_true rfl) (Nat.le_of_ble_eq_true rfl) dd_X9_check_5.1
              refine xr_icmp_ne (tgt := 115) (n := 105) C dd_X9_check_4.1 rfl rfl (fun c_45 => ?_) (fun c_45 => ?_)
              · replace hE_40 := yf_f c_45 hE_40
                refine xr_aload_n (n := 116) (j := 1) C dd_X9_check_4.2.2.2.2.2.2.2.1 rfl rfl ?_
                refine xr_iconst (n := 117) (v := 0) C dd_X9_check_4.2.2.2.2.2.2.2.2.1 rfl rfl ?_
                refine xr_iload_n (n := 118) (j := 3) C dd_X9_check_4.2.2.2.2.2.2.2.2.2.1 rfl rfl ?_
                obtain ⟨x_46, hx_46, hE_40⟩ := yf_b hE_40
                refine xr_callVp (n := 121) (As := [.int 0, .int x_13]) (rest := []) C (kX9_off_r l D cy (g := g) (gth := x_4.2) (gw := gw) (gB := gB) (gK := gK) (gU := gU) (gS := gS) (gbe := gbe) (gwo := gwo) (gta := gta) (gn := gn) (glr := glr) (glc := glc) (gti := gti) (ggo := ggo) (gR := gR) (gch := gch) (gD := gD) (gRd := gRd) (gRn := gRn) (gRk := gRk) (gRG := gRG) (i1 := 0) (i2 := x_13) hx_46) mX9_off u_1500 u_1502 u_47 0 rfl rfl 3 [0, 1, 2] [] rfl (by decide +kernel) rfl rfl rfl rfl (Nat.le_of_ble_eq_true rfl) (Nat.le_of_ble_eq_true rfl) (Nat.le_of_ble_eq_true rfl) (Nat.le_of_ble_eq_true rfl) (Nat.le_of_ble_eq_true rfl) dd_X9_check_4.2.2.2.2.2.2.2.2.2.2.1 rfl (fun _ _ hp => hp.2) (fun v_47 hp_49 => ?_)
                obtain ⟨rfl, -⟩ := hp_49
                refine xr_st (st' := [.int x_46]) rfl ?_
                refine xr_lv (lv' := [(0, .ref g), (1, .int x_9), (2, .int x_13), (3, .int r_30)]) [1, 2, 3, 0] rfl ?_
                have e_50 := Option.some.inj hE_40
                subst e_50
                exact J_40
              · replace hE_40 := yf_t c_45 hE_40
                refine xr_aload_n (n := 106) (j := 1) C dd_X9_check_4.2.1 rfl rfl ?_
                refine xr_iconst (n := 107) (v := 0) C dd_X9_check_4.2.2.1 rfl rfl ?_
                refine xr_iload_n (n := 108) (j := 3) C dd_X9_check_4.2.2.2.1 rfl rfl ?_
                obtain ⟨x_51, hx_51, hE_40⟩ := yf_b hE_40
                refine xr_callVp (n := 111) (As := [.int 0, .int x_13]) (rest := []) C (kX9_off_r l D cy (g := g) (gth := x_4.2) (gw := gw) (gB := gB) (gK := gK) (gU := gU) (gS := gS) (gbe := gbe) (gwo := gwo) (gta := gta) (gn := gn) (glr := glr) (glc := glc) (gti := gti) (ggo := ggo) (gR := gR) (gch := gch) (gD := gD) (gRd := gRd) (gRn := gRn) (gRk := gRk) (gRG := gRG) (i1 := 0) (i2 := x_13) hx_51) mX9_off u_1500 u_1502 u_47 0 rfl rfl 3 [0, 1, 2] [] rfl (by decide +kernel) rfl rfl rfl rfl (Nat.le_of_ble_eq_true rfl) (Nat.le_of_ble_eq_true rfl) (Nat.le_of_ble_eq_true rfl) (Nat.le_of_ble_eq_true rfl) (Nat.le_of_ble_eq_true rfl) dd_X9_check_4.2.2.2.2.1 rfl (fun _ _ hp => hp.2) (fun v_52 hp_54 => ?_)
                obtain ⟨rfl, -⟩ := hp_54
                refine xr_st (st' := [.int x_51]) rfl ?_
                refine xr_ineg (n := 112) C dd_X9_check_4.2.2.2.2.2.1 rfl ?_
                refine xr_goto (tgt := 121) C dd_X9_check_4.2.2.2.2.2.2.1 rfl ?_
                refine xr_lv (lv' := [(0, .ref g), (1, .int x_9), (2, .int x_13), (3, .int r_30)]) [1, 2, 3, 0] rfl ?_
                have e_55 := Option.some.inj hE_40
                subst e_55
                exact J_40
            refine xr_icmp_ne (tgt := 87) (n := 77) C dd_X9_check_2.2.2.2.2.2.2.2.2.2.2.2.2.2.2.1 rfl rfl (fun c_56 => ?_) (fun c_56 => ?_)
            · replace hE_30 := yf_f c_56 hE_30
              refine xr_aload_n (n := 88) (j := 2) C dd_X9_check_3.2.2.2.2.2.1 rfl rfl ?_
              refine xr_iconst (n := 89) (v := 1) C dd_X9_check_3.2.2.2.2.2.2.1 rfl rfl ?_
              refine xr_iload_n (n := 90) (j := 1) C dd_X9_check_3.2.2.2.2.2.2.2.1 rfl rfl ?_
              obtain ⟨x_57, hx_57, hE_30⟩ := yf_b hE_30
              refine xr_callVp (n := 93) (As := [.int 1, .int x_9]) (rest := []) C (kX9_off_r l D cy (g := g) (gth := x_4.2) (gw := gw) (gB := gB) (gK := gK) (gU := gU) (gS := gS) (gbe := gbe) (gwo := gwo) (gta := gta) (gn := gn) (glr := glr) (glc := glc) (gti := gti) (ggo := ggo) (gR := gR) (gch := gch) (gD := gD) (gRd := gRd) (gRn := gRn) (gRk := gRk) (gRG := gRG) (i1 := 1) (i2 := x_9) hx_57) mX9_off u_1500 u_1502 u_47 0 rfl rfl 3 [0, 1, 2] [] rfl (by decide +kernel) rfl rfl rfl rfl (Nat.le_of_ble_eq_true rfl) (Nat.le_of_ble_eq_true rfl) (Nat.le_of_ble_eq_true rfl) (Nat.le_of_ble_eq_true rfl) (Nat.le_of_ble_eq_true rfl) dd_X9_check_3.2.2.2.2.2.2.2.2.1 rfl (fun _ _ hp => hp.2) (fun v_58 hp_60 => ?_)
              obtain ⟨rfl, -⟩ := hp_60
              refine xr_st (st' := [.int x_57]) rfl ?_
              refine xr_lv (lv' := [(0, .ref g), (1, .int x_9), (2, .int x_13)]) [2, 1, 0] rfl ?_
              have e_61 := Option.some.inj hE_30
              subst e_61
              exact J_30
            · replace hE_30 := yf_t c_56 hE_30
              refine xr_aload_n (n := 78) (j := 2) C dd_X9_check_2.2.2.2.2.2.2.2.2.2.2.2.2.2.2.2.1 rfl rfl ?_
              refine xr_iconst (n := 79) (v := 1) C dd_X9_check_3.1 rfl rfl ?_
              refine xr_iload_n (n := 80) (j := 1) C dd_X9_check_3.2.1 rfl rfl ?_
              obtain ⟨x_62, hx_62, hE_30⟩ := yf_b hE_30
              refine xr_callVp (n := 83) (As := [.int 1, .int x_9]) (rest := []) C (kX9_off_r l D cy (g := g) (gth := x_4.2) (gw := gw) (gB := gB) (gK := gK) (gU := gU) (gS := gS) (gbe := gbe) (gwo := gwo) (gta := gta) (gn := gn) (glr := glr) (glc := glc) (gti := gti) (ggo := ggo) (gR := gR) (gch := gch) (gD := gD) (gRd := gRd) (gRn := gRn) (gRk := gRk) (gRG := gRG) (i1 := 1) (i2 := x_9) hx_62) mX9_off u_1500 u_1502 u_47 0 rfl rfl 3 [0, 1, 2] [] rfl (by decide +kernel) rfl rfl rfl rfl (Nat.le_of_ble_eq_true rfl) (Nat.le_of_ble_eq_true rfl) (Nat.le_of_ble_eq_true rfl) (Nat.le_of_ble_eq_true rfl) (Nat.le_of_ble_eq_true rfl) dd_X9_check_3.2.2.1 rfl (fun _ _ hp => hp.2) (fun v_63 hp_65 => ?_)
              obtain ⟨rfl, -⟩ := hp_65
              refine xr_st (st' := [.int x_62]) rfl ?_
              refine xr_ineg (n := 84) C dd_X9_check_3.2.2.2.1 rfl ?_
              refine xr_goto (tgt := 93) C dd_X9_check_3.2.2.2.2.1 rfl ?_
              refine xr_lv (lv' := [(0, .ref g), (1, .int x_9), (2, .int x_13)]) [2, 1, 0] rfl ?_
              have e_66 := Option.some.inj hE_30
              subst e_66
              exact J_30
          · replace hR := yf_f c_19 hR
            refine xr_iconst (n := 63) (v := 2) C dd_X9_check_2.2.2.2.2.1 rfl rfl ?_
            obtain rfl := Option.some.inj hR
            exact ret 2 ⟨rfl, rfl⟩ (Nat.le_of_ble_eq_true rfl) (Nat.le_of_ble_eq_true rfl) dd_X9_check_2.2.2.2.2.2.1
      · replace hR := yf_t c_17 hR
        refine xr_iload_n (n := 48) (j := 0) C dd_X9_check_1.2.2.2.2.2.2.2.2.2.2.2.1 rfl rfl ?_
        refine xr_iconst (n := 49) (v := -1) C dd_X9_check_1.2.2.2.2.2.2.2.2.2.2.2.2.1 rfl rfl ?_
        refine xr_icmp_ne (tgt := 54) (n := 52) C dd_X9_check_1.2.2.2.2.2.2.2.2.2.2.2.2.2.1 rfl rfl (fun c_67 => ?_) (fun c_67 => ?_)
        · replace hR := yf_f c_67 hR
          refine xr_iload_n (n := 55) (j := 1) C dd_X9_check_2.1 rfl rfl ?_
          refine xr_if_lt (tgt := 62) (n := 58) C dd_X9_check_2.2.1 rfl rfl (fun c_68 => ?_) (fun c_68 => ?_)
          · replace hR := yf_t c_68 hR
            refine xr_iconst (n := 63) (v := 2) C dd_X9_check_2.2.2.2.2.1 rfl rfl ?_
            obtain rfl := Option.some.inj hR
            exact ret 2 ⟨rfl, rfl⟩ (Nat.le_of_ble_eq_true rfl) (Nat.le_of_ble_eq_true rfl) dd_X9_check_2.2.2.2.2.2.1
          · replace hR := yf_f c_68 hR
            refine xr_iload_n (n := 59) (j := 0) C dd_X9_check_2.2.2.1 rfl rfl ?_
            refine xr_if_ge (tgt := 64) (n := 62) C dd_X9_check_2.2.2.2.1 rfl rfl (fun c_69 => ?_) (fun c_69 => ?_)
            · replace hR := yf_t c_69 hR
              refine xr_iload_n (n := 65) (j := 0) C dd_X9_check_2.2.2.2.2.2.2.1 rfl rfl ?_
              refine xr_aload_n (n := 66) (j := 2) C dd_X9_check_2.2.2.2.2.2.2.2.1 rfl rfl ?_
              refine xr_get (n := 69) C 0 rfl rfl 14 (by decide) in_X9 u_1251 rfl (v := .ref gR) rfl dd_X9_check_2.2.2.2.2.2.2.2.2.1 rfl ?_
              refine xr_iconst (n := 70) (v := 0) C dd_X9_check_2.2.2.2.2.2.2.2.2.2.1 rfl rfl ?_
              obtain ⟨g_70, hR⟩ := yf_g hR
              refine xr_aald (n := 71) C 1 0 rfl 3 rfl rfl g_70 rfl dd_X9_check_2.2.2.2.2.2.2.2.2.2.2.1 rfl ?_
              refine xr_aleng (n := 72) C 2 1 rfl ((0 : Int32).toNatClampNeg) (ylt g_70) rfl dd_X9_check_2.2.2.2.2.2.2.2.2.2.2.2.1 rfl ?_
              refine xr_iconst (n := 73) (v := 1) C dd_X9_check_2.2.2.2.2.2.2.2.2.2.2.2.2.1 rfl rfl ?_
              refine xr_isub (n := 74) C dd_X9_check_2.2.2.2.2.2.2.2.2.2.2.2.2.2.1 rfl ?_
              obtain ⟨r_80, hE_80, hR⟩ := yf_b hR
              have J_80 : X p l e (yR 4 0 0) s m args below meth c D A H0 5 Q [[(g, .inr (11, [.int x_4.2, .ref gw, .ref gB, .ref gK, .ref gU, .ref gS, .int gbe, .int gwo, .long gta, .ref gn, .int glr, .int glc, .int gti, .int ggo, .ref gR, .int gch, .ref gD]))], [(gR, .inl (cy 3, gRn, .inr (.inr (.inr (.inr (yad gRd))))))], xg_rows gRd gRn (cy 1) gRk gRG] 0 0 [(0, .ref g), (1, .int x_9), (2, .int x_13)] 93 [.int r_80] := by
                refine xr_istore_n (n := 94) C [(3, .int r_80), (0, .ref g), (1, .int x_9), (2, .int x_13)] dd_X9_check_3.2.2.2.2.2.2.2.2.2.1 (by decide) rfl rfl ?_
                refine xr_iload_n (n := 95) (j := 2) C dd_X9_check_3.2.2.2.2.2.2.2.2.2.2.1 rfl rfl ?_
                refine xr_aload_n (n := 96) (j := 1) C dd_X9_check_3.2.2.2.2.2.2.2.2.2.2.2.1 rfl rfl ?_
                refine xr_get (n := 99) C 0 rfl rfl 14 (by decide) in_X9 u_1251 rfl (v := .ref gR) rfl dd_X9_check_3.2.2.2.2.2.2.2.2.2.2.2.2.1 rfl ?_
                refine xr_alen (n := 100) C 1 0 rfl 3 rfl rfl dd_X9_check_3.2.2.2.2.2.2.2.2.2.2.2.2.2.1 rfl ?_
                refine xr_iconst (n := 101) (v := 1) C dd_X9_check_3.2.2.2.2.2.2.2.2.2.2.2.2.2.2.1 rfl rfl ?_
                refine xr_isub (n := 102) C dd_X9_check_3.2.2.2.2.2.2.2.2.2.2.2.2.2.2.2.1 rfl ?_
                obtain ⟨r_90, hE_90, hR⟩ := yf_b hR
                have J_90 : X p l e (yR 4 0 0) s m args below meth c D A H0 5 Q [[(g, .inr (11, [.int x_4.2, .ref gw, .ref gB, .ref gK, .ref gU, .ref gS, .int gbe, .int gwo, .long gta, .ref gn, .int glr, .int glc, .int gti, .int ggo, .ref gR, .int gch, .ref gD]))], [(gR, .inl (cy 3, gRn, .inr (.inr (.inr (.inr (yad gRd))))))], xg_rows gRd gRn (cy 1) gRk gRG] 0 0 [(0, .ref g), (1, .int x_9), (2, .int x_13), (3, .int r_80)] 121 [.int r_90] := by
                  refine xr_istore (n := 123) C [(4, .int r_90), (0, .ref g), (1, .int x_9), (2, .int x_13), (3, .int r_80)] dd_X9_check_4.2.2.2.2.2.2.2.2.2.2.2.1 (by decide) rfl rfl ?_
                  refine xr_iload_n (n := 124) (j := 4) C dd_X9_check_4.2.2.2.2.2.2.2.2.2.2.2.2.1 rfl rfl ?_
                  refine xr_iload (n := 126) (j := 0) C dd_X9_check_4.2.2.2.2.2.2.2.2.2.2.2.2.2.1 rfl rfl ?_
                  refine xr_icmp_eq (tgt := 131) (n := 129) C dd_X9_check_4.2.2.2.2.2.2.2.2.2.2.2.2.2.2.1 rfl rfl (fun c_91 => ?_) (fun c_91 => ?_)
                  · replace hR := yf_t c_91 hR
                    refine xr_aload_n (n := 132) (j := 1) C dd_X9_check_5.2.1 rfl rfl ?_
                    refine xr_get (n := 135) C 0 rfl rfl 14 (by decide) in_X9 u_1251 rfl (v := .ref gR) rfl dd_X9_check_5.2.2.1 rfl ?_
                    refine xr_iload_n (n := 136) (j := 2) C dd_X9_check_5.2.2.2.1 rfl rfl ?_
                    obtain ⟨g_92, hR⟩ := yf_g hR
                    refine xr_aald (n := 137) C 1 0 rfl 3 rfl rfl g_92 rfl dd_X9_check_5.2.2.2.2.1 rfl ?_
                    refine xr_iload_n (n := 138) (j := 3) C dd_X9_check_5.2.2.2.2.2.1 rfl rfl ?_
                    refine xr_dup2 (n := 139) C dd_X9_check_5.2.2.2.2.2.2.1 rfl rfl rfl ?_
                    obtain ⟨g_93, hR⟩ := yf_g hR
                    refine xr_ialdg (n := 140) C 2 rfl x_9.toNatClampNeg (ylt g_92) g_93 dd_X9_check_5.2.2.2.2.2.2.2.1 rfl ?_
                    refine xr_iload_n (n := 141) (j := 4) C dd_X9_check_5.2.2.2.2.2.2.2.2.1 rfl rfl ?_
                    refine xr_iadd (n := 142) C dd_X9_check_5.2.2.2.2.2.2.2.2.2.1 rfl ?_
                    obtain ⟨g_94, hR⟩ := yf_g hR
                    refine xr_iastg (n := 143) C 2 rfl x_9.toNatClampNeg (ylt g_92) g_94 [[(g, .inr (11, [.int x_4.2, .ref gw, .ref gB, .ref gK, .ref gU, .ref gS, .int gbe, .int gwo, .long gta, .ref gn, .int glr, .int glc, .int gti, .int ggo, .ref gR, .int gch, .ref gD]))], [(gR, .inl (cy 3, gRn, .inr (.inr (.inr (.inr (yad gRd))))))], xg_rows gRd gRn (cy 1) gRk (upg gRG x_9.toNatClampNeg x_13.toNatClampNeg ((gRG x_9.toNatClampNeg x_13.toNatClampNeg) + r_80))] rfl dd_X9_check_5.2.2.2.2.2.2.2.2.2.2.1 rfl ?_
                    refine xr_iconst (n := 144) (v := 1) C dd_X9_check_5.2.2.2.2.2.2.2.2.2.2.2.1 rfl rfl ?_
                    obtain rfl := Option.some.inj hR
                    exact ret 1 ⟨rfl, rfl⟩ (Nat.le_of_ble_eq_true rfl) (Nat.le_of_ble_eq_true rfl) dd_X9_check_5.2.2.2.2.2.2.2.2.2.2.2.2.1
                  · replace hR := yf_f c_91 hR
                    refine xr_iconst (n := 130) (v := 2) C dd_X9_check_4.2.2.2.2.2.2.2.2.2.2.2.2.2.2.2.1 rfl rfl ?_
                    obtain rfl := Option.some.inj hR
                    exact ret 2 ⟨rfl, rfl⟩ (Nat.le_of_ble_eq_true rfl) (Nat.le_of_ble_eq_true rfl) dd_X9_check_5.1
                refine xr_icmp_ne (tgt := 115) (n := 105) C dd_X9_check_4.1 rfl rfl (fun c_95 => ?_) (fun c_95 => ?_)
                · replace hE_90 := yf_f c_95 hE_90
                  refine xr_aload_n (n := 116) (j := 1) C dd_X9_check_4.2.2.2.2.2.2.2.1 rfl rfl ?_
                  refine xr_iconst (n := 117) (v := 0) C dd_X9_check_4.2.2.2.2.2.2.2.2.1 rfl rfl ?_
                  refine xr_iload_n (n := 118) (j := 3) C dd_X9_check_4.2.2.2.2.2.2.2.2.2.1 rfl rfl ?_
                  obtain ⟨x_96, hx_96, hE_90⟩ := yf_b hE_90
                  refine xr_callVp (n := 121) (As := [.int 0, .int x_13]) (rest := []) C (kX9_off_r l D cy (g := g) (gth := x_4.2) (gw := gw) (gB := gB) (gK := gK) (gU := gU) (gS := gS) (gbe := gbe) (gwo := gwo) (gta := gta) (gn := gn) (glr := glr) (glc := glc) (gti := gti) (ggo := ggo) (gR := gR) (gch := gch) (gD := gD) (gRd := gRd) (gRn := gRn) (gRk := gRk) (gRG := gRG) (i1 := 0) (i2 := x_13) hx_96) mX9_off u_1500 u_1502 u_47 0 rfl rfl 3 [0, 1, 2] [] rfl (by decide +kernel) rfl rfl rfl rfl (Nat.le_of_ble_eq_true rfl) (Nat.le_of_ble_eq_true rfl) (Nat.le_of_ble_eq_true rfl) (Nat.le_of_ble_eq_true rfl) (Nat.le_of_ble_eq_true rfl) dd_X9_check_4.2.2.2.2.2.2.2.2.2.2.1 rfl (fun _ _ hp => hp.2) (fun v_97 hp_99 => ?_)
                  obtain ⟨rfl, -⟩ := hp_99
                  refine xr_st (st' := [.int x_96]) rfl ?_
                  refine xr_lv (lv' := [(0, .ref g), (1, .int x_9), (2, .int x_13), (3, .int r_80)]) [1, 2, 3, 0] rfl ?_
                  have e_100 := Option.some.inj hE_90
                  subst e_100
                  exact J_90
                · replace hE_90 := yf_t c_95 hE_90
                  refine xr_aload_n (n := 106) (j := 1) C dd_X9_check_4.2.1 rfl rfl ?_
                  refine xr_iconst (n := 107) (v := 0) C dd_X9_check_4.2.2.1 rfl rfl ?_
                  refine xr_iload_n (n := 108) (j := 3) C dd_X9_check_4.2.2.2.1 rfl rfl ?_
                  obtain ⟨x_101, hx_101, hE_90⟩ := yf_b hE_90
                  refine xr_callVp (n := 111) (As := [.int 0, .int x_13]) (rest := []) C (kX9_off_r l D cy (g := g) (gth := x_4.2) (gw := gw) (gB := gB) (gK := gK) (gU := gU) (gS := gS) (gbe := gbe) (gwo := gwo) (gta := gta) (gn := gn) (glr := glr) (glc := glc) (gti := gti) (ggo := ggo) (gR := gR) (gch := gch) (gD := gD) (gRd := gRd) (gRn := gRn) (gRk := gRk) (gRG := gRG) (i1 := 0) (i2 := x_13) hx_101) mX9_off u_1500 u_1502 u_47 0 rfl rfl 3 [0, 1, 2] [] rfl (by decide +kernel) rfl rfl rfl rfl (Nat.le_of_ble_eq_true rfl) (Nat.le_of_ble_eq_true rfl) (Nat.le_of_ble_eq_true rfl) (Nat.le_of_ble_eq_true rfl) (Nat.le_of_ble_eq_true rfl) dd_X9_check_4.2.2.2.2.1 rfl (fun _ _ hp => hp.2) (fun v_102 hp_104 => ?_)
                  obtain ⟨rfl, -⟩ := hp_104
                  refine xr_st (st' := [.int x_101]) rfl ?_
                  refine xr_ineg (n := 112) C dd_X9_check_4.2.2.2.2.2.1 rfl ?_
                  refine xr_goto (tgt := 121) C dd_X9_check_4.2.2.2.2.2.2.1 rfl ?_
                  refine xr_lv (lv' := [(0, .ref g), (1, .int x_9), (2, .int x_13), (3, .int r_80)]) [1, 2, 3, 0] rfl ?_
                  have e_105 := Option.some.inj hE_90
                  subst e_105
                  exact J_90
              refine xr_icmp_ne (tgt := 87) (n := 77) C dd_X9_check_2.2.2.2.2.2.2.2.2.2.2.2.2.2.2.1 rfl rfl (fun c_106 => ?_) (fun c_106 => ?_)
              · replace hE_80 := yf_f c_106 hE_80
                refine xr_aload_n (n := 88) (j := 2) C dd_X9_check_3.2.2.2.2.2.1 rfl rfl ?_
                refine xr_iconst (n := 89) (v := 1) C dd_X9_check_3.2.2.2.2.2.2.1 rfl rfl ?_
                refine xr_iload_n (n := 90) (j := 1) C dd_X9_check_3.2.2.2.2.2.2.2.1 rfl rfl ?_
                obtain ⟨x_107, hx_107, hE_80⟩ := yf_b hE_80
                refine xr_callVp (n := 93) (As := [.int 1, .int x_9]) (rest := []) C (kX9_off_r l D cy (g := g) (gth := x_4.2) (gw := gw) (gB := gB) (gK := gK) (gU := gU) (gS := gS) (gbe := gbe) (gwo := gwo) (gta := gta) (gn := gn) (glr := glr) (glc := glc) (gti := gti) (ggo := ggo) (gR := gR) (gch := gch) (gD := gD) (gRd := gRd) (gRn := gRn) (gRk := gRk) (gRG := gRG) (i1 := 1) (i2 := x_9) hx_107) mX9_off u_1500 u_1502 u_47 0 rfl rfl 3 [0, 1, 2] [] rfl (by decide +kernel) rfl rfl rfl rfl (Nat.le_of_ble_eq_true rfl) (Nat.le_of_ble_eq_true rfl) (Nat.le_of_ble_eq_true rfl) (Nat.le_of_ble_eq_true rfl) (Nat.le_of_ble_eq_true rfl) dd_X9_check_3.2.2.2.2.2.2.2.2.1 rfl (fun _ _ hp => hp.2) (fun v_108 hp_110 => ?_)
                obtain ⟨rfl, -⟩ := hp_110
                refine xr_st (st' := [.int x_107]) rfl ?_
                refine xr_lv (lv' := [(0, .ref g), (1, .int x_9), (2, .int x_13)]) [2, 1, 0] rfl ?_
                have e_111 := Option.some.inj hE_80
                subst e_111
                exact J_80
              · replace hE_80 := yf_t c_106 hE_80
                refine xr_aload_n (n := 78) (j := 2) C dd_X9_check_2.2.2.2.2.2.2.2.2.2.2.2.2.2.2.2.1 rfl rfl ?_
                refine xr_iconst (n := 79) (v := 1) C dd_X9_check_3.1 rfl rfl ?_
                refine xr_iload_n (n := 80) (j := 1) C dd_X9_check_3.2.1 rfl rfl ?_
                obtain ⟨x_112, hx_112, hE_80⟩ := yf_b hE_80
                refine xr_callVp (n := 83) (As := [.int 1, .int x_9]) (rest := []) C (kX9_off_r l D cy (g := g) (gth := x_4.2) (gw := gw) (gB := gB) (gK := gK) (gU := gU) (gS := gS) (gbe := gbe) (gwo := gwo) (gta := gta) (gn := gn) (glr := glr) (glc := glc) (gti := gti) (ggo := ggo) (gR := gR) (gch := gch) (gD := gD) (gRd := gRd) (gRn := gRn) (gRk := gRk) (gRG := gRG) (i1 := 1) (i2 := x_9) hx_112) mX9_off u_1500 u_1502 u_47 0 rfl rfl 3 [0, 1, 2] [] rfl (by decide +kernel) rfl rfl rfl rfl (Nat.le_of_ble_eq_true rfl) (Nat.le_of_ble_eq_true rfl) (Nat.le_of_ble_eq_true rfl) (Nat.le_of_ble_eq_true rfl) (Nat.le_of_ble_eq_true rfl) dd_X9_check_3.2.2.1 rfl (fun _ _ hp => hp.2) (fun v_113 hp_115 => ?_)
                obtain ⟨rfl, -⟩ := hp_115
                refine xr_st (st' := [.int x_112]) rfl ?_
                refine xr_ineg (n := 84) C dd_X9_check_3.2.2.2.1 rfl ?_
                refine xr_goto (tgt := 93) C dd_X9_check_3.2.2.2.2.1 rfl ?_
                refine xr_lv (lv' := [(0, .ref g), (1, .int x_9), (2, .int x_13)]) [2, 1, 0] rfl ?_
                have e_116 := Option.some.inj hE_80
                subst e_116
                exact J_80
            · replace hR := yf_f c_69 hR
              refine xr_iconst (n := 63) (v := 2) C dd_X9_check_2.2.2.2.2.1 rfl rfl ?_
              obtain rfl := Option.some.inj hR
              exact ret 2 ⟨rfl, rfl⟩ (Nat.le_of_ble_eq_true rfl) (Nat.le_of_ble_eq_true rfl) dd_X9_check_2.2.2.2.2.2.1
        · replace hR := yf_t c_67 hR
          refine xr_iconst (n := 53) (v := 0) C dd_X9_check_1.2.2.2.2.2.2.2.2.2.2.2.2.2.2.1 rfl rfl ?_
          obtain rfl := Option.some.inj hR
          exact ret 0 ⟨rfl, rfl⟩ (Nat.le_of_ble_eq_true rfl) (Nat.le_of_ble_eq_true rfl) dd_X9_check_1.2.2.2.2.2.2.2.2.2.2.2.2.2.2.2.1
    · replace hR := yf_f c_8 hR
      refine xr_iconst (n := 29) (v := 0) C dd_X9_check_0.2.2.2.2.2.2.2.2.2.2.2.2.2.2.1 rfl rfl ?_
      obtain rfl := Option.some.inj hR
      exact ret 0 ⟨rfl, rfl⟩ (Nat.le_of_ble_eq_true rfl) (Nat.le_of_ble_eq_true rfl) dd_X9_check_0.2.2.2.2.2.2.2.2.2.2.2.2.2.2.2.1
  refine xr_if_eq (tgt := 16) (n := 9) C dd_X9_check_0.2.2.2.2.1 rfl rfl (fun c_117 => ?_) (fun c_117 => ?_)
  · replace hE_3 := yf_t c_117 hE_3
    refine xr_iconst (n := 17) (v := 1) C dd_X9_check_0.2.2.2.2.2.2.2.2.1 rfl rfl ?_
    refine xr_goto (tgt := 21) C dd_X9_check_0.2.2.2.2.2.2.2.2.2.1 rfl ?_
    have e_118 := Option.some.inj hE_3
    subst e_118
    exact J_3
  · replace hE_3 := yf_f c_117 hE_3
    refine xr_aload_n (n := 10) (j := 0) C dd_X9_check_0.2.2.2.2.2.1 rfl rfl ?_
    refine xr_get (n := 13) C 0 rfl rfl 15 (by decide) in_X9 u_1252 rfl (v := .int gch) rfl dd_X9_check_0.2.2.2.2.2.2.1 rfl ?_
    refine xr_if_ne (tgt := 20) (n := 16) C dd_X9_check_0.2.2.2.2.2.2.2.1 rfl rfl (fun c_119 => ?_) (fun c_119 => ?_)
    · replace hE_3 := yf_f c_119 hE_3
      refine xr_iconst (n := 21) (v := 0) C dd_X9_check_0.2.2.2.2.2.2.2.2.2.2.1 rfl rfl ?_
      have e_120 := Option.some.inj hE_3
      subst e_120
      exact J_3
    · replace hE_3 := yf_t c_119 hE_3
      refine xr_iconst (n := 17) (v := 1) C dd_X9_check_0.2.2.2.2.2.2.2.2.1 rfl rfl ?_
      refine xr_goto (tgt := 21) C dd_X9_check_0.2.2.2.2.2.2.2.2.2.1 rfl ?_
      have e_121 := Option.some.inj hE_3
      subst e_121
      exact J_3
