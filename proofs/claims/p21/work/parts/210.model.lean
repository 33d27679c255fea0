theorem u_1500 : Cond.methodLink RX9 238 yX9_wrong ∈ yU := yu_tables_1_7 4 (by decide +kernel) (by decide +kernel)
theorem u_1502 : Cond.instanceMethod yX9_wrong ∈ yU := yu_tables_1_7 6 (by decide +kernel) (by decide +kernel)
theorem u_48 : Cond.selects RX9 yX9_wrong yX9_wrong ∈ yU := yu 48 (by decide +kernel) (by decide +kernel)
theorem u_1495 : Cond.code yX9_severalOr cX9_severalOr 4 (some .int) ∈ yU := yu_tables_1_6 239 (by decide +kernel) (by decide +kernel)
theorem u_1252 : Cond.fieldLink RX9 223 "PulsemeshModel" "areChecked" "Z" ∈ yU := yu_tables_1_5 236 (by decide +kernel) (by decide +kernel)
theorem u_1492 : Cond.methodLink RX9 235 yX9_severalOr ∈ yU := yu_tables_1_6 236 (by decide +kernel) (by decide +kernel)
theorem u_1494 : Cond.instanceMethod yX9_severalOr ∈ yU := yu_tables_1_6 238 (by decide +kernel) (by decide +kernel)
theorem u_46 : Cond.selects RX9 yX9_severalOr yX9_severalOr ∈ yU := yu 46 (by decide +kernel) (by decide +kernel)
theorem u_1491 : Cond.code yX9_check cX9_check 5 (some .int) ∈ yU := yu_tables_1_6 235 (by decide +kernel) (by decide +kernel)
theorem u_1438 : Cond.methodLink RX9 193 yX8_skipped ∈ yU := yu_tables_1_6 182 (by decide +kernel) (by decide +kernel)
theorem u_1243 : Cond.fieldLink RX9 213 "PulsemeshModel" "beats" "I" ∈ yU := yu_tables_1_5 227 (by decide +kernel) (by decide +kernel)
theorem u_1244 : Cond.fieldLink RX9 184 "PulsemeshModel" "works" "I" ∈ yU := yu_tables_1_5 228 (by decide +kernel) (by decide +kernel)
theorem u_1414 : Cond.methodLink RX9 187 yX9_left_ ∈ yU := yu_tables_1_6 158 (by decide +kernel) (by decide +kernel)
theorem u_1416 : Cond.instanceMethod yX9_left_ ∈ yU := yu_tables_1_6 160 (by decide +kernel) (by decide +kernel)
theorem u_35 : Cond.selects RX9 yX9_left_ yX9_left_ ∈ yU := yu 35 (by decide +kernel) (by decide +kernel)
theorem u_1511 : Cond.code yX9_meshTold cX9_meshTold 2 (some .int) ∈ yU := yu_tables_1_7 15 (by decide +kernel) (by decide +kernel)
theorem dd_X9_severalOr_0 : dk_R cX9_severalOr [(0, .iconst 0, 1), (1, .istore_n 2, 1), (2, .iconst 0, 1), (3, .istore_n 3, 1), (4, .iload_n 3, 1), (5, .iload_n 1, 1), (6, .ifCond .eq 11, 3), (9, .aload_n 0, 1), (10, .getfield 38, 3), (13, .arraylength, 1), (14, .goto 10, 3), (17, .aload_n 0, 1), (18, .getfield 38, 3), (21, .iconst 0, 1), (22, .aaload, 1), (23, .arraylength, 1)] := dk_use _ _ (by decide +kernel)
theorem dd_X9_severalOr_1 : dk_R cX9_severalOr [(24, .if_icmp .ge 29, 3), (27, .iload_n 2, 1), (28, .aload_n 0, 1), (29, .iload_n 1, 1), (30, .iload_n 3, 1), (31, .invokevirtual 231, 3), (34, .ifCond .eq 7, 3), (37, .iconst 1, 1), (38, .goto 4, 3), (41, .iconst 0, 1), (42, .invokestatic 71, 3), (45, .iadd, 1), (46, .istore_n 2, 1), (47, .iinc 3 1, 3), (50, .goto (-46), 3), (53, .iload_n 2, 1)] := dk_use _ _ (by decide +kernel)
theorem dd_X9_severalOr_2 : dk_R cX9_severalOr [(54, .iconst 1, 1), (55, .if_icmp .le 8, 3), (58, .bipush (-2), 2), (60, .goto 8, 3), (63, .aload_n 0, 1), (64, .iload_n 1, 1), (65, .invokevirtual 238, 3), (68, .ireturn, 1)] := dk_use _ _ (by decide +kernel)
def fX9_severalOr_i (gRn : Nat) (gRk : Nat) (gRG : Nat → Nat → Int32) (i1 : Int32) : Option (Int32) := ((wl (S := Int32 × Int32) (B := Int32 × Int32) (fun s_1 => ((((if i1 = 0 then (if ¬ ((0 : Int32) < 0 ∨ gRn ≤ (0 : Int32).toNatClampNeg) then some (nI gRk) else none) else some (nI gRn)) : Option (Int32))).bind fun r_9 => (if r_9 ≤ s_1.2 then some (.inr (s_1.1, s_1.2)) else ((fX9_off_i gRn gRk gRG i1 s_1.2).bind fun x_12 => ((((if x_12 = 0 then some 0 else some 1) : Option (Int32))).bind fun r_17 => ((fX9_one r_17).bind fun x_18 => some (.inl (s_1.1 + x_18, s_1.2 + 1)))))))) yFuel (0, 0)).bind fun b_1 => (if b_1.1 ≤ 1 then ((fX9_wrong_i gRn gRk gRG i1).bind fun x_3 => some x_3) else some (-2)))
abbrev hX9_severalOr : Cond := .code yX9_severalOr cX9_severalOr 4 (some .int)
theorem mX9_severalOr : yM yX9_severalOr hX9_severalOr 1 := ⟨u_1495, u_64, by decide +kernel, by decide +kernel, by decide +kernel⟩
set_option maxHeartbeats 4000000 in
set_option maxRecDepth 100000 in
theorem kX9_severalOr_i (l : Launch) (D : va_G) (cy : Nat → ClassId) (g : Nat) (gth : Int32) (gw : Nat) (gB : Nat) (gK : Nat) (gU : Nat) (gS : Nat) (gbe : Int32) (gwo : Int32) (gta : Int64) (glr : Int32) (glc : Int32) (gti : Int32) (ggo : Int32) (gR : Nat) (gch : Int32) (gD : Nat) (gRd : Nat → Nat) (gRn : Nat) (gRk : Nat) (gRG : Nat → Nat → Int32) (i1 : Int32) {res : Int32} (hR : fX9_severalOr_i gRn gRk gRG i1 = some res) : YM l D cy yX9_severalOr hX9_severalOr 3 0 0 [.ref g, .int i1] [[(g, .inr (11, [.int gth, .ref gw, .ref gB, .ref gK, .ref gU, .ref gS, .int gbe, .int gwo, .long gta, .null, .int glr, .int glc, .int gti, .int ggo, .ref gR, .int gch, .ref gD]))], [(gR, .inl (cy 3, gRn, .inr (.inr (.inr (.inr (yad gRd))))))], xg_rows gRd gRn (cy 1) gRk gRG] (fun v u => v = some (.int res) ∧ u = [[(g, .inr (11, [.int gth, .ref gw, .ref gB, .ref gK, .ref gU, .ref gS, .int gbe, .int gwo, .long gta, .null, .int glr, .int glc, .int gti, .int ggo, .ref gR, .int gch, .ref gD]))], [(gR, .inl (cy 3, gRn, .inr (.inr (.inr (.inr (yad gRd))))))], xg_rows gRd gRn (cy 1) gRk gRG]) := by
  unfold fX9_severalOr_i at hR
  refine YM.ofI (cc := cX9_severalOr) (maxL := 4) (ret := (some .int)) (by decide +kernel) rfl (Nat.le_of_ble_eq_true rfl) [(0, .ref g), (1, .int i1)] rfl rfl (fun p e s m args below meth c A H0 Q C hnm ret => ?_)
  refine xr_iconst (n := 1) (v := 0) C dd_X9_severalOr_0.1 rfl rfl ?_
  refine xr_istore_n (n := 2) C [(2, .int 0), (0, .ref g), (1, .int i1)] dd_X9_severalOr_0.2.1 (by decide) rfl rfl ?_
  refine xr_iconst (n := 3) (v := 0) C dd_X9_severalOr_0.2.2.1 rfl rfl ?_
  refine xr_istore_n (n := 4) C [(3, .int 0), (2, .int 0), (0, .ref g), (1, .int i1)] dd_X9_severalOr_0.2.2.2.1 (by decide) rfl rfl ?_
  refine xr_lv (lv' := [(0, .ref g), (1, .int i1), (2, .int 0), (3, .int 0)]) [2, 3, 1, 0] rfl ?_
  obtain ⟨b_1, hb_1, hR⟩ := yf_b hR
  have K_1 : X p l e (yR 3 0 0) s m args below meth c D A H0 4 Q [[(g, .inr (11, [.int gth, .ref gw, .ref gB, .ref gK, .ref gU, .ref gS, .int gbe, .int gwo, .long gta, .null, .int glr, .int glc, .int gti, .int ggo, .ref gR, .int gch, .ref gD]))], [(gR, .inl (cy 3, gRn, .inr (.inr (.inr (.inr (yad gRd))))))], xg_rows gRd gRn (cy 1) gRk gRG] 0 0 [(0, .ref g), (1, .int i1), (2, .int b_1.1)] 53 [] := by
    refine xr_iload_n (n := 54) (j := 2) C dd_X9_severalOr_1.2.2.2.2.2.2.2.2.2.2.2.2.2.2.2.1 rfl rfl ?_
    refine xr_iconst (n := 55) (v := 1) C dd_X9_severalOr_2.1 rfl rfl ?_
    refine xr_icmp_le (tgt := 63) (n := 58) C dd_X9_severalOr_2.2.1 rfl rfl (fun c_2 => ?_) (fun c_2 => ?_)
    · replace hR := yf_t c_2 hR
      refine xr_aload_n (n := 64) (j := 0) C dd_X9_severalOr_2.2.2.2.2.1 rfl rfl ?_
      refine xr_iload_n (n := 65) (j := 1) C dd_X9_severalOr_2.2.2.2.2.2.1 rfl rfl ?_
      obtain ⟨x_3, hx_3, hR⟩ := yf_b hR
      refine xr_callVp (n := 68) (As := [.int i1]) (rest := []) C (kX9_wrong_i l D cy (g := g) (gth := gth) (gw := gw) (gB := gB) (gK := gK) (gU := gU) (gS := gS) (gbe := gbe) (gwo := gwo) (gta := gta) (glr := glr) (glc := glc) (gti := gti) (ggo := ggo) (gR := gR) (gch := gch) (gD := gD) (gRd := gRd) (gRn := gRn) (gRk := gRk) (gRG := gRG) (i1 := i1) hx_3) mX9_wrong u_1500 u_1502 u_48 0 rfl rfl 3 [0, 1, 2] [] rfl (by decide +kernel) rfl rfl rfl rfl (Nat.le_of_ble_eq_true rfl) (Nat.le_of_ble_eq_true rfl) (Nat.le_of_ble_eq_true rfl) (Nat.le_of_ble_eq_true rfl) (Nat.le_of_ble_eq_true rfl) dd_X9_severalOr_2.2.2.2.2.2.2.1 rfl (fun _ _ hp => hp.2) (fun v_4 hp_6 => ?_)
      obtain ⟨rfl, -⟩ := hp_6
      refine xr_st (st' := [.int x_3]) rfl ?_
      obtain rfl := Option.some.inj hR
      exact ret x_3 ⟨rfl, rfl⟩ (Nat.le_of_ble_eq_true rfl) (Nat.le_of_ble_eq_true rfl) dd_X9_severalOr_2.2.2.2.2.2.2.2.1
    · replace hR := yf_f c_2 hR
      refine xr_bipush (n := 60) (v := -2) C dd_X9_severalOr_2.2.2.1 rfl rfl ?_
      refine xr_goto (tgt := 68) C dd_X9_severalOr_2.2.2.2.1 rfl ?_
      obtain rfl := Option.some.inj hR
      exact ret (-2) ⟨rfl, rfl⟩ (Nat.le_of_ble_eq_true rfl) (Nat.le_of_ble_eq_true rfl) dd_X9_severalOr_2.2.2.2.2.2.2.2.1
  refine y_loop (P := fun (s_1 : Int32 × Int32) => X p l e (yR 3 0 0) s m args below meth c D A H0 4 Q [[(g, .inr (11, [.int gth, .ref gw, .ref gB, .ref gK, .ref gU, .ref gS, .int gbe, .int gwo, .long gta, .null, .int glr, .int glc, .int gti, .int ggo, .ref gR, .int gch, .ref gD]))], [(gR, .inl (cy 3, gRn, .inr (.inr (.inr (.inr (yad gRd))))))], xg_rows gRd gRn (cy 1) gRk gRG] 0 0 [(0, .ref g), (1, .int i1), (2, .int s_1.1), (3, .int s_1.2)] 4 []) ?_ _ (0, 0) hb_1
  intro s_1 o_1 ho_1 hk_1 hx_1
  refine xr_iload_n (n := 5) (j := 3) C dd_X9_severalOr_0.2.2.2.2.1 rfl rfl ?_
  refine xr_iload_n (n := 6) (j := 1) C dd_X9_severalOr_0.2.2.2.2.2.1 rfl rfl ?_
  obtain ⟨r_9, hE_9, ho_1⟩ := yf_b ho_1
  have J_9 : X p l e (yR 3 0 0) s m args below meth c D A H0 4 Q [[(g, .inr (11, [.int gth, .ref gw, .ref gB, .ref gK, .ref gU, .ref gS, .int gbe, .int gwo, .long gta, .null, .int glr, .int glc, .int gti, .int ggo, .ref gR, .int gch, .ref gD]))], [(gR, .inl (cy 3, gRn, .inr (.inr (.inr (.inr (yad gRd))))))], xg_rows gRd gRn (cy 1) gRk gRG] 0 0 [(0, .ref g), (1, .int i1), (2, .int s_1.1), (3, .int s_1.2)] 24 [.int r_9, .int s_1.2] := by
    refine xr_icmp_ge (tgt := 53) (n := 27) C dd_X9_severalOr_1.1 rfl rfl (fun c_10 => ?_) (fun c_10 => ?_)
    · replace ho_1 := yf_t c_10 ho_1
      refine xr_lv (lv' := [(0, .ref g), (1, .int i1), (2, .int s_1.1)]) [0, 1, 2] rfl ?_
      have e_11 := hx_1 _ (Option.some.inj ho_1).symm
      subst e_11
      exact K_1
    · replace ho_1 := yf_f c_10 ho_1
      refine xr_iload_n (n := 28) (j := 2) C dd_X9_severalOr_1.2.1 rfl rfl ?_
      refine xr_aload_n (n := 29) (j := 0) C dd_X9_severalOr_1.2.2.1 rfl rfl ?_
      refine xr_iload_n (n := 30) (j := 1) C dd_X9_severalOr_1.2.2.2.1 rfl rfl ?_
      refine xr_iload_n (n := 31) (j := 3) C dd_X9_severalOr_1.2.2.2.2.1 rfl rfl ?_
      obtain ⟨x_12, hx_12, ho_1⟩ := yf_b ho_1
      refine xr_callVp (n := 34) (As := [.int i1, .int s_1.2]) (rest := [.int s_1.1]) C (kX9_off_i l D cy (g := g) (gth := gth) (gw := gw) (gB := gB) (gK := gK) (gU := gU) (gS := gS) (gbe := gbe) (gwo := gwo) (gta := gta) (glr := glr) (glc := glc) (gti := gti) (ggo := ggo) (gR := gR) (gch := gch) (gD := gD) (gRd := gRd) (gRn := gRn) (gRk := gRk) (gRG := gRG) (i1 := i1) (i2 := s_1.2) hx_12) mX9_off u_1496 u_1498 u_47 0 rfl rfl 3 [0, 1, 2] [] rfl (by decide +kernel) rfl rfl rfl rfl (Nat.le_of_ble_eq_true rfl) (Nat.le_of_ble_eq_true rfl) (Nat.le_of_ble_eq_true rfl) (Nat.le_of_ble_eq_true rfl) (Nat.le_of_ble_eq_true rfl) dd_X9_severalOr_1.2.2.2.2.2.1 rfl (fun _ _ hp => hp.2) (fun v_13 hp_15 => ?_)
      obtain ⟨rfl, -⟩ := hp_15
      refine xr_st (st' := [.int x_12, .int s_1.1]) rfl ?_
      obtain ⟨r_17, hE_17, ho_1⟩ := yf_b ho_1
      have J_17 : X p l e (yR 3 0 0) s m args below meth c D A H0 4 Q [[(g, .inr (11, [.int gth, .ref gw, .ref gB, .ref gK, .ref gU, .ref gS, .int gbe, .int gwo, .long gta, .null, .int glr, .int glc, .int gti, .int ggo, .ref gR, .int gch, .ref gD]))], [(gR, .inl (cy 3, gRn, .inr (.inr (.inr (.inr (yad gRd))))))], xg_rows gRd gRn (cy 1) gRk gRG] 0 0 [(0, .ref g), (1, .int i1), (3, .int s_1.2)] 42 [.int r_17, .int s_1.1] := by
        obtain ⟨x_18, hx_18, ho_1⟩ := yf_b ho_1
        refine xr_callSp (n := 45) (As := [.int r_17]) (rest := [.int s_1.1]) C (kX9_one l D cy (i1 := r_17) hx_18) mX9_one u_1308 u_1309 3 [] [0, 1, 2] rfl (by decide +kernel) rfl rfl rfl rfl (Nat.le_of_ble_eq_true rfl) (Nat.le_of_ble_eq_true rfl) (Nat.le_of_ble_eq_true rfl) (Nat.le_of_ble_eq_true rfl) (Nat.le_of_ble_eq_true rfl) dd_X9_severalOr_1.2.2.2.2.2.2.2.2.2.2.1 rfl (fun _ _ hp => hp.2) (fun v_19 hp_21 => ?_)
        obtain ⟨rfl, -⟩ := hp_21
        refine xr_st (st' := [.int x_18, .int s_1.1]) rfl ?_
        refine xr_iadd (n := 46) C dd_X9_severalOr_1.2.2.2.2.2.2.2.2.2.2.2.1 rfl ?_
        refine xr_istore_n (n := 47) C [(2, .int (s_1.1 + x_18)), (0, .ref g), (1, .int i1), (3, .int s_1.2)] dd_X9_severalOr_1.2.2.2.2.2.2.2.2.2.2.2.2.1 (by decide) rfl rfl ?_
        refine xr_iinc (j := 3) (v := s_1.2 + 1) (n := 50) C [(3, .int (s_1.2 + 1)), (2, .int (s_1.1 + x_18)), (0, .ref g), (1, .int i1)] dd_X9_severalOr_1.2.2.2.2.2.2.2.2.2.2.2.2.2.1 rfl rfl (by decide) rfl rfl ?_
        refine xr_goto (tgt := 4) C dd_X9_severalOr_1.2.2.2.2.2.2.2.2.2.2.2.2.2.2.1 rfl ?_
        refine xr_lv (lv' := [(0, .ref g), (1, .int i1), (2, .int (s_1.1 + x_18)), (3, .int (s_1.2 + 1))]) [2, 3, 1, 0] rfl ?_
        exact hk_1 (s_1.1 + x_18, s_1.2 + 1) (Option.some.inj ho_1).symm
      refine xr_if_eq (tgt := 41) (n := 37) C dd_X9_severalOr_1.2.2.2.2.2.2.1 rfl rfl (fun c_22 => ?_) (fun c_22 => ?_)
      · replace hE_17 := yf_t c_22 hE_17
        refine xr_iconst (n := 42) (v := 0) C dd_X9_severalOr_1.2.2.2.2.2.2.2.2.2.1 rfl rfl ?_
        refine xr_lv (lv' := [(0, .ref g), (1, .int i1), (3, .int s_1.2)]) [0, 1, 3] rfl ?_
        have e_23 := Option.some.inj hE_17
        subst e_23
        exact J_17
      · replace hE_17 := yf_f c_22 hE_17
        refine xr_iconst (n := 38) (v := 1) C dd_X9_severalOr_1.2.2.2.2.2.2.2.1 rfl rfl ?_
        refine xr_goto (tgt := 42) C dd_X9_severalOr_1.2.2.2.2.2.2.2.2.1 rfl ?_
        refine xr_lv (lv' := [(0, .ref g), (1, .int i1), (3, .int s_1.2)]) [0, 1, 3] rfl ?_
        have e_24 := Option.some.inj hE_17
        subst e_24
        exact J_17
  refine xr_if_eq (tgt := 17) (n := 9) C dd_X9_severalOr_0.2.2.2.2.2.2.1 rfl rfl (fun c_25 => ?_) (fun c_25 => ?_)
  · replace hE_9 := yf_t c_25 hE_9
    refine xr_aload_n (n := 18) (j := 0) C dd_X9_severalOr_0.2.2.2.2.2.2.2.2.2.2.2.1 rfl rfl ?_
    refine xr_get (n := 21) C 0 rfl rfl 14 (by decide) in_X9 u_1251 rfl (v := .ref gR) rfl dd_X9_severalOr_0.2.2.2.2.2.2.2.2.2.2.2.2.1 rfl ?_
    refine xr_iconst (n := 22) (v := 0) C dd_X9_severalOr_0.2.2.2.2.2.2.2.2.2.2.2.2.2.1 rfl rfl ?_
    obtain ⟨g_26, hE_9⟩ := yf_g hE_9
    refine xr_aald (n := 23) C 1 0 rfl 3 rfl rfl g_26 rfl dd_X9_severalOr_0.2.2.2.2.2.2.2.2.2.2.2.2.2.2.1 rfl ?_
    refine xr_aleng (n := 24) C 2 1 rfl ((0 : Int32).toNatClampNeg) (ylt g_26) rfl dd_X9_severalOr_0.2.2.2.2.2.2.2.2.2.2.2.2.2.2.2.1 rfl ?_
    have e_27 := Option.some.inj hE_9
    subst e_27
    exact J_9
  · replace hE_9 := yf_f c_25 hE_9
    refine xr_aload_n (n := 10) (j := 0) C dd_X9_severalOr_0.2.2.2.2.2.2.2.1 rfl rfl ?_
    refine xr_get (n := 13) C 0 rfl rfl 14 (by decide) in_X9 u_1251 rfl (v := .ref gR) rfl dd_X9_severalOr_0.2.2.2.2.2.2.2.2.1 rfl ?_
    refine xr_alen (n := 14) C 1 0 rfl 3 rfl rfl dd_X9_severalOr_0.2.2.2.2.2.2.2.2.2.1 rfl ?_
    refine xr_goto (tgt := 24) C dd_X9_severalOr_0.2.2.2.2.2.2.2.2.2.2.1 rfl ?_
    have e_28 := Option.some.inj hE_9
    subst e_28
    exact J_9
def fX9_severalOr_r (gRn : Nat) (gRk : Nat) (gRG : Nat → Nat → Int32) (i1 : Int32) : Option (Int32) := ((wl (S := Int32 × Int32) (B := Int32 × Int32) (fun s_1 => ((((if i1 = 0 then (if ¬ ((0 : Int32) < 0 ∨ gRn ≤ (0 : Int32).toNatClampNeg) then some (nI gRk) else none) else some (nI gRn)) : Option (Int32))).bind fun r_9 => (if r_9 ≤ s_1.2 then some (.inr (s_1.1, s_1.2)) else ((fX9_off_r gRn gRk gRG i1 s_1.2).bind fun x_12 => ((((if x_12 = 0 then some 0 else some 1) : Option (Int32))).bind fun r_17 => ((fX9_one r_17).bind fun x_18 => some (.inl (s_1.1 + x_18, s_1.2 + 1)))))))) yFuel (0, 0)).bind fun b_1 => (if b_1.1 ≤ 1 then ((fX9_wrong_r gRn gRk gRG i1).bind fun x_3 => some x_3) else some (-2)))
set_option maxHeartbeats 4000000 in
set_option maxRecDepth 100000 in
theorem kX9_severalOr_r (l : Launch) (D : va_G) (cy : Nat → ClassId) (g : Nat) (gth : Int32) (gw : Nat) (gB : Nat) (gK : Nat) (gU : Nat) (gS : Nat) (gbe : Int32) (gwo : Int32) (gta : Int64) (gn : Nat) (glr : Int32) (glc : Int32) (gti : Int32) (ggo : Int32) (gR : Nat) (gch : Int32) (gD : Nat) (gRd : Nat → Nat) (gRn : Nat) (gRk : Nat) (gRG : Nat → Nat → Int32) (i1 : Int32) {res : Int32} (hR : fX9_severalOr_r gRn gRk gRG i1 = some res) : YM l D cy yX9_severalOr hX9_severalOr 3 0 0 [.ref g, .int i1] [[(g, .inr (11, [.int gth, .ref gw, .ref gB, .ref gK, .ref gU, .ref gS, .int gbe, .int gwo, .long gta, .ref gn, .int glr, .int glc, .int gti, .int ggo, .ref gR, .int gch, .ref gD]))], [(gR, .inl (cy 3, gRn, .inr (.inr (.inr (.inr (yad gRd))))))], xg_rows gRd gRn (cy 1) gRk gRG] (fun v u => v = some (.int res) ∧ u = [[(g, .inr (11, [.int gth, .ref gw, .ref gB, .ref gK, .ref gU, .ref gS, .int gbe, .int gwo, .long gta, .ref gn, .int glr, .int glc, .int gti, .int ggo, .ref gR, .int gch, .ref gD]))], [(gR, .inl (cy 3, gRn, .inr (.inr (.inr (.inr (yad gRd))))))], xg_rows gRd gRn (cy 1) gRk gRG]) := by
  unfold fX9_severalOr_r at hR
  refine YM.ofI (cc := cX9_severalOr) (maxL := 4) (ret := (some .int)) (by decide +kernel) rfl (Nat.le_of_ble_eq_true rfl) [(0, .ref g), (1, .int i1)] rfl rfl (fun p e s m args below meth c A H0 Q C hnm ret => ?_)
  refine xr_iconst (n := 1) (v := 0) C dd_X9_severalOr_0.1 rfl rfl ?_
  refine xr_istore_n (n := 2) C [(2, .int 0), (0, .ref g), (1, .int i1)] dd_X9_severalOr_0.2.1 (by decide) rfl rfl ?_
  refine xr_iconst (n := 3) (v := 0) C dd_X9_severalOr_0.2.2.1 rfl rfl ?_
  refine xr_istore_n (n := 4) C [(3, .int 0), (2, .int 0), (0, .ref g), (1, .int i1)] dd_X9_severalOr_0.2.2.2.1 (by decide) rfl rfl ?_
  refine xr_lv (lv' := [(0, .ref g), (1, .int i1), (2, .int 0), (3, .int 0)]) [2, 3, 1, 0] rfl ?_
  obtain ⟨b_1, hb_1, hR⟩ := yf_b hR
  have K_1 : X p l e (yR 3 0 0) s m args below meth c D A H0 4 Q [[(g, .inr (11, [.int gth, .ref gw, .ref gB, .ref gK, .ref gU, .ref gS, .int gbe, .int gwo, .long gta, .ref gn, .int glr, .int glc, .int gti, .int ggo, .ref gR, .int gch, .ref gD]))], [(gR, .inl (cy 3, gRn, .inr (.inr (.inr (.inr (yad gRd))))))], xg_rows gRd gRn (cy 1) gRk gRG] 0 0 [(0, .ref g), (1, .int i1), (2, .int b_1.1)] 53 [] := by
    refine xr_iload_n (n := 54) (j := 2) C dd_X9_severalOr_1.2.2.2.2.2.2.2.2.2.2.2.2.2.2.2.1 rfl rfl ?_
    refine xr_iconst (n := 55) (v := 1) C dd_X9_severalOr_2.1 rfl rfl ?_
    refine xr_icmp_le (tgt := 63) (n := 58) C dd_X9_severalOr_2.2.1 rfl rfl (fun c_2 => ?_) (fun c_2 => ?_)
    · replace hR := yf_t c_2 hR
      refine xr_aload_n (n := 64) (j := 0) C dd_X9_severalOr_2.2.2.2.2.1 rfl rfl ?_
      refine xr_iload_n (n := 65) (j := 1) C dd_X9_severalOr_2.2.2.2.2.2.1 rfl rfl ?_
      obtain ⟨x_3, hx_3, hR⟩ := yf_b hR
      refine xr_callVp (n := 68) (As := [.int i1]) (rest := []) C (kX9_wrong_r l D cy (g := g) (gth := gth) (gw := gw) (gB := gB) (gK := gK) (gU := gU) (gS := gS) (gbe := gbe) (gwo := gwo) (gta := gta) (gn := gn) (glr := glr) (glc := glc) (gti := gti) (ggo := ggo) (gR := gR) (gch := gch) (gD := gD) (gRd := gRd) (gRn := gRn) (gRk := gRk) (gRG := gRG) (i1 := i1) hx_3) mX9_wrong u_1500 u_1502 u_48 0 rfl rfl 3 [0, 1, 2] [] rfl (by decide +kernel) rfl rfl rfl rfl (Nat.le_of_ble_eq_true rfl) (Nat.le_of_ble_eq_true rfl) (Nat.le_of_ble_eq_true rfl) (Nat.le_of_ble_eq_true rfl) (Nat.le_of_ble_eq_true rfl) dd_X9_severalOr_2.2.2.2.2.2.2.1 rfl (fun _ _ hp => hp.2) (fun v_4 hp_6 => ?_)
      obtain ⟨rfl, -⟩ := hp_6
      refine xr_st (st' := [.int x_3]) rfl ?_
      obtain rfl := Option.some.inj hR
      exact ret x_3 ⟨rfl, rfl⟩ (Nat.le_of_ble_eq_true rfl) (Nat.le_of_ble_eq_true rfl) dd_X9_severalOr_2.2.2.2.2.2.2.2.1
    · replace hR := yf_f c_2 hR
      refine xr_bipush (n := 60) (v := -2) C dd_X9_severalOr_2.2.2.1 rfl rfl ?_
      refine xr_goto (tgt := 68) C dd_X9_severalOr_2.2.2.2.1 rfl ?_
      obtain rfl := Option.some.inj hR
      exact ret (-2) ⟨rfl, rfl⟩ (Nat.le_of_ble_eq_true rfl) (Nat.le_of_ble_eq_true rfl) dd_X9_severalOr_2.2.2.2.2.2.2.2.1
  refine y_loop (P := fun (s_1 : Int32 × Int32) => X p l e (yR 3 0 0) s m args below meth c D A H0 4 Q [[(g, .inr (11, [.int gth, .ref gw, .ref gB, .ref gK, .ref gU, .ref gS, .int gbe, .int gwo, .long gta, .ref gn, .int glr, .int glc, .int gti, .int ggo, .ref gR, .int gch, .ref gD]))], [(gR, .inl (cy 3, gRn, .inr (.inr (.inr (.inr (yad gRd))))))], xg_rows gRd gRn (cy 1) gRk gRG] 0 0 [(0, .ref g), (1, .int i1), (2, .int s_1.1), (3, .int s_1.2)] 4 []) ?_ _ (0, 0) hb_1
  intro s_1 o_1 ho_1 hk_1 hx_1
  refine xr_iload_n (n := 5) (j := 3) C dd_X9_severalOr_0.2.2.2.2.1 rfl rfl ?_
  refine xr_iload_n (n := 6) (j := 1) C dd_X9_severalOr_0.2.2.2.2.2.1 rfl rfl ?_
  obtain ⟨r_9, hE_9, ho_1⟩ := yf_b ho_1
  have J_9 : X p l e (yR 3 0 0) s m args below meth c D A H0 4 Q [[(g, .inr (11, [.int gth, .ref gw, .ref gB, .ref gK, .ref gU, .ref gS, .int gbe, .int gwo, .long gta, .ref gn, .int glr, .int glc, .int gti, .int ggo, .ref gR, .int gch, .ref gD]))], [(gR, .inl (cy 3, gRn, .inr (.inr (.inr (.inr (yad gRd))))))], xg_rows gRd gRn (cy 1) gRk gRG] 0 0 [(0, .ref g), (1, .int i1), (2, .int s_1.1), (3, .int s_1.2)] 24 [.int r_9, .int s_1.2] := by
    refine xr_icmp_ge (tgt := 53) (n := 27) C dd_X9_severalOr_1.1 rfl rfl (fun c_10 => ?_) (fun c_10 => ?_)
    · replace ho_1 := yf_t c_10 ho_1
      refine xr_lv (lv' := [(0, .ref g), (1, .int i1), (2, .int s_1.1)]) [0, 1, 2] rfl ?_
      have e_11 := hx_1 _ (Option.some.inj ho_1).symm
      subst e_11
      exact K_1
    · replace ho_1 := yf_f c_10 ho_1
      refine xr_iload_n (n := 28) (j := 2) C dd_X9_severalOr_1.2.1 rfl rfl ?_
      refine xr_aload_n (n := 29) (j := 0) C dd_X9_severalOr_1.2.2.1 rfl rfl ?_
      refine xr_iload_n (n := 30) (j := 1) C dd_X9_severalOr_1.2.2.2.1 rfl rfl ?_
      refine xr_iload_n (n := 31) (j := 3) C dd_X9_severalOr_1.2.2.2.2.1 rfl rfl ?_
      obtain ⟨x_12, hx_12, ho_1⟩ := yf_b ho_1
      refine xr_callVp (n := 34) (As := [.int i1, .int s_1.2]) (rest := [.int s_1.1]) C (kX9_off_r l D cy (g := g) (gth := gth) (gw := gw) (gB := gB) (gK := gK) (gU := gU) (gS := gS) (gbe := gbe) (gwo := gwo) (gta := gta) (gn := gn) (glr := glr) (glc := glc) (gti := gti) (ggo := ggo) (gR := gR) (gch := gch) (gD := gD) (gRd := gRd) (gRn := gRn) (gRk := gRk) (gRG := gRG) (i1 := i1) (i2 := s_1.2) hx_12) mX9_off u_1496 u_1498 u_47 0 rfl rfl 3 [0, 1, 2] [] rfl (by decide +kernel) rfl rfl rfl rfl (Nat.le_of_ble_eq_true rfl) (Nat.le_of_ble_eq_true rfl) (Nat.le_of_ble_eq_true rfl) (Nat.le_of_ble_eq_true rfl) (Nat.le_of_ble_eq_true rfl) dd_X9_severalOr_1.2.2.2.2.2.1 rfl (fun _ _ hp => hp.2) (fun v_13 hp_15 => ?_)
      obtain ⟨rfl, -⟩ := hp_15
      refine xr_st (st' := [.int x_12, .int s_1.1]) rfl ?_
      obtain ⟨r_17, hE_17, ho_1⟩ := yf_b ho_1
      have J_17 : X p l e (yR 3 0 0) s m args below meth c D A H0 4 Q [[(g, .inr (11, [.int gth, .ref gw, .ref gB, .ref gK, .ref gU, .ref gS, .int gbe, .int gwo, .long gta, .ref gn, .int glr, .int glc, .int gti, .int ggo, .ref gR, .int gch, .ref gD]))], [(gR, .inl (cy 3, gRn, .inr (.inr (.inr (.inr (yad gRd))))))], xg_rows gRd gRn (cy 1) gRk gRG] 0 0 [(0, .ref g), (1, .int i1), (3, .int s_1.2)] 42 [.int r_17, .int s_1.1] := by
        obtain ⟨x_18, hx_18, ho_1⟩ := yf_b ho_1
        refine xr_callSp (n := 45) (As := [.int r_17]) (rest := [.int s_1.1]) C (kX9_one l D cy (i1 := r_17) hx_18) mX9_one u_1308 u_1309 3 [] [0, 1, 2] rfl (by decide +kernel) rfl rfl rfl rfl (Nat.le_of_ble_eq_true rfl) (Nat.le_of_ble_eq_true rfl) (Nat.le_of_ble_eq_true rfl) (Nat.le_of_ble_eq_true rfl) (Nat.le_of_ble_eq_true rfl) dd_X9_severalOr_1.2.2.2.2.2.2.2.2.2.2.1 rfl (fun _ _ hp => hp.2) (fun v_19 hp_21 => ?_)
        obtain ⟨rfl, -⟩ := hp_21
        refine xr_st (st' := [.int x_18, .int s_1.1]) rfl ?_
        refine xr_iadd (n := 46) C dd_X9_severalOr_1.2.2.2.2.2.2.2.2.2.2.2.1 rfl ?_
        refine xr_istore_n (n := 47) C [(2, .int (s_1.1 + x_18)), (0, .ref g), (1, .int i1), (3, .int s_1.2)] dd_X9_severalOr_1.2.2.2.2.2.2.2.2.2.2.2.2.1 (by decide) rfl rfl ?_
        refine xr_iinc (j := 3) (v := s_1.2 + 1) (n := 50) C [(3, .int (s_1.2 + 1)), (2, .int (s_1.1 + x_18)), (0, .ref g), (1, .int i1)] dd_X9_severalOr_1.2.2.2.2.2.2.2.2.2.2.2.2.2.1 rfl rfl (by decide) rfl rfl ?_
        refine xr_goto (tgt := 4) C dd_X9_severalOr_1.2.2.2.2.2.2.2.2.2.2.2.2.2.2.1 rfl ?_
        refine xr_lv (lv' := [(0, .ref g), (1, .int i1), (2, .int (s_1.1 + x_18)), (3, .int (s_1.2 + 1))]) [2, 3, 1, 0] rfl ?_
        exact hk_1 (s_1.1 + x_18, s_1.2 + 1) (Option.some.inj ho_1).symm
      refine xr_if_eq (tgt := 41) (n := 37) C dd_X9_severalOr_1.2.2.2.2.2.2.1 rfl rfl (fun c_22 => ?_) (fun c_22 => ?_)
      · replace hE_17 := yf_t c_22 hE_17
        refine xr_iconst (n := 42) (v := 0) C dd_X9_severalOr_1.2.2.2.2.2.2.2.2.2.1 rfl rfl ?_
        refine xr_lv (lv' := [(0, .ref g), (1, .int i1), (3, .int s_1.2)]) [0, 1, 3] rfl ?_
        have e_23 := Option.some.inj hE_17
        subst e_23
        exact J_17
      · replace hE_17 := yf_f c_22 hE_17
        refine xr_iconst (n := 38) (v := 1) C dd_X9_severalOr_1.2.2.2.2.2.2.2.1 rfl rfl ?_
        refine xr_goto (tgt := 42) C dd_X9_severalOr_1.2.2.2.2.2.2.2.2.1 rfl ?_
        refine xr_lv (lv' := [(0, .ref g), (1, .int i1), (3, .int s_1.2)]) [0, 1, 3] rfl ?_
        have e_24 := Option.some.inj hE_17
        subst e_24
        exact J_17
  refine xr_if_eq (tgt := 17) (n := 9) C dd_X9_severalOr_0.2.2.2.2.2.2.1 rfl rfl (fun c_25 => ?_) (fun c_25 => ?_)
  · replace hE_9 := yf_t c_25 hE_9
    refine xr_aload_n (n := 18) (j := 0) C dd_X9_severalOr_0.2.2.2.2.2.2.2.2.2.2.2.1 rfl rfl ?_
    refine xr_get (n := 21) C 0 rfl rfl 14 (by decide) in_X9 u_1251 rfl (v := .ref gR) rfl dd_X9_severalOr_0.2.2.2.2.2.2.2.2.2.2.2.2.1 rfl ?_
    refine xr_iconst (n := 22) (v := 0) C dd_X9_severalOr_0.2.2.2.2.2.2.2.2.2.2.2.2.2.1 rfl rfl ?_
    obtain ⟨g_26, hE_9⟩ := yf_g hE_9
    refine xr_aald (n := 23) C 1 0 rfl 3 rfl rfl g_26 rfl dd_X9_severalOr_0.2.2.2.2.2.2.2.2.2.2.2.2.2.2.1 rfl ?_
    refine xr_aleng (n := 24) C 2 1 rfl ((0 : Int32).toNatClampNeg) (ylt g_26) rfl dd_X9_severalOr_0.2.2.2.2.2.2.2.2.2.2.2.2.2.2.2.1 rfl ?_
    have e_27 := Option.some.inj hE_9
    subst e_27
    exact J_9
  · replace hE_9 := yf_f c_25 hE_9
    refine xr_aload_n (n := 10) (j := 0) C dd_X9_severalOr_0.2.2.2.2.2.2.2.1 rfl rfl ?_
    refine xr_get (n := 13) C 0 rfl rfl 14 (by decide) in_X9 u_1251 rfl (v := .ref gR) rfl dd_X9_severalOr_0.2.2.2.2.2.2.2.2.1 rfl ?_
    refine xr_alen (n := 14) C 1 0 rfl 3 rfl rfl dd_X9_severalOr_0.2.2.2.2.2.2.2.2.2.1 rfl ?_
    refine xr_goto (tgt := 24) C dd_X9_severalOr_0.2.2.2.2.2.2.2.2.2.2.1 rfl ?_
    have e_28 := Option.some.inj hE_9
    subst e_28
    exact J_9
theorem dd_X9_check_0 : dk_R cX9_check [(0, .aload_n 0, 1), (1, .aload_n 0, 1), (2, .getfield 38, 3), (5, .arraylength, 1), (6, .ifCond .eq 10, 3), (9, .aload_n 0, 1), (10, .getfield 223, 3), (13, .ifCond .ne 7, 3), (16, .iconst 1, 1), (17, .goto 4, 3), (20, .iconst 0, 1), (21, .iconst 1, 1), (22, .invokevirtual 79, 3), (25, .ifCond .eq 5, 3), (28, .iconst 0, 1), (29, .ireturn, 1)] := dk_use _ _ (by decide +kernel)
theorem dd_X9_check_1 : dk_R cX9_check [(30, .aload_n 0, 1), (31, .iconst 1, 1), (32, .invokevirtual 235, 3), (35, .istore_n 1, 1), (36, .aload_n 0, 1), (37, .iconst 0, 1), (38, .invokevirtual 235, 3), (41, .istore_n 2, 1), (42, .iload_n 1, 1), (43, .iconst (-1), 1), (44, .if_icmp .ne 10, 3), (47, .iload_n 2, 1), (48, .iconst (-1), 1), (49, .if_icmp .ne 5, 3), (52, .iconst 0, 1), (53, .ireturn, 1)] := dk_use _ _ (by decide +kernel)
theorem dd_X9_check_2 : dk_R cX9_check [(54, .iload_n 1, 1), (55, .ifCond .lt 7, 3), (58, .iload_n 2, 1), (59, .ifCond .ge 5, 3), (62, .iconst 2, 1), (63, .ireturn, 1), (64, .iload_n 2, 1), (65, .aload_n 0, 1), (66, .getfield 38, 3), (69, .iconst 0, 1), (70, .aaload, 1), (71, .arraylength, 1), (72, .iconst 1, 1), (73, .isub, 1), (74, .if_icmp .ne 13, 3), (77, .aload_n 0, 1)] := dk_use _ _ (by decide +kernel)
theorem dd_X9_check_3 : dk_R cX9_check [(78, .iconst 1, 1), (79, .iload_n 1, 1), (80, .invokevirtual 231, 3), (83, .ineg, 1), (84, .goto 9, 3), (87, .aload_n 0, 1), (88, .iconst 1, 1), (89, .iload_n 1, 1), (90, .invokevirtual 231, 3), (93, .istore_n 3, 1), (94, .iload_n 1, 1), (95, .aload_n 0, 1), (96, .getfield 38, 3), (99, .arraylength, 1), (100, .iconst 1, 1), (101, .isub, 1)] := dk_use _ _ (by decide +kernel)
theorem dd_X9_check_4 : dk_R cX9_check [(102, .if_icmp .ne 13, 3), (105, .aload_n 0, 1), (106, .iconst 0, 1), (107, .iload_n 2, 1), (108, .invokevirtual 231, 3), (111, .ineg, 1), (112, .goto 9, 3), (115, .aload_n 0, 1), (116, .iconst 0, 1), (117, .iload_n 2, 1), (118, .invokevirtual 231, 3), (121, .istore 4, 2), (123, .iload_n 3, 1), (124, .iload 4, 2), (126, .if_icmp .eq 5, 3), (129, .iconst 2, 1)] := dk_use _ _ (by decide +kernel)
theorem dd_X9_check_5 : dk_R cX9_check [(130, .ireturn, 1), (131, .aload_n 0, 1), (132, .getfield 38, 3), (135, .iload_n 1, 1), (136, .aaload, 1), (137, .iload_n 2, 1), (138, .dup2, 1), (139, .iaload, 1), (140, .iload_n 3, 1), (141, .iadd, 1), (142, .iastore, 1), (143, .iconst 1, 1), (144, .ireturn, 1)] := dk_use _ _ (by decide +kernel)
def fX9_check_i (gch : Int32) (gRn : Nat) (gRk : Nat) (gRG : Nat → Nat → Int32) : Option (Int32 × Int32 × (Nat → Nat → Int32)) := ((((if (nI gRn) = 0 then some 1 else (if gch = 0 then some 1 else some 0)) : Option (Int32))).bind fun r_3 => ((fX9_start_i r_3 1).bind fun x_4 => (if x_4.1 = 0 then ((fX9_severalOr_i gRn gRk gRG 1).bind fun x_9 => ((fX9_severalOr_i gRn gRk gRG 0).bind fun x_13 => (if x_9 = (-1) then (if x_13 = (-1) then some (0, x_4.2, gRG) else (if x_9 < 0 then some (2, x_4.2, gRG) else (if 0 ≤ x_13 then (if ¬ ((0 : Int32) < 0 ∨ gRn ≤ (0 : Int32).toNatClampNeg) then ((((if x_13 = ((nI gRk) - 1) then ((fX9_off_i gRn gRk gRG 1 x_9).bind fun x_112 => some (-x_112)) else ((fX9_off_i gRn gRk gRG 1 x_9).bind fun x_107 => some x_107)) : Option (Int32))).bind fun r_80 => ((((if x_9 = ((nI gRn) - 1) then ((fX9_off_i gRn gRk gRG 0 x_13).bind fun x_101 => some (-x_101)) else ((fX9_off_i gRn gRk gRG 0 x_13).bind fun x_96 => some x_96)) : Option (Int32))).bind fun r_90 => (if r_80 = r_90 then (if ¬ (x_9 < 0 ∨ gRn ≤ x_9.toNatClampNeg) then (if ¬ (x_13 < 0 ∨ gRk ≤ x_13.toNatClampNeg) then (if ¬ (x_13 < 0 ∨ gRk ≤ x_13.toNatClampNeg) then some (1, x_4.2, upg gRG x_9.toNatClampNeg x_13.toNatClampNeg ((gRG x_9.toNatClampNeg x_13.toNatClampNeg) + r_80)) else none) else none) else none) else some (2, x_4.2, gRG)))) else none) else some (2, x_4.2, gRG)))) else (if x_9 < 0 then some (2, x_4.2, gRG) else (if 0 ≤ x_13 then (if ¬ ((0 : Int32) < 0 ∨ gRn ≤ (0 : Int32).toNatClampNeg) then ((((if x_13 = ((nI gRk) - 1) then ((fX9_off_i gRn gRk gRG 1 x_9).bind fun x_62 => some (-x_62)) else ((fX9_off_i gRn gRk gRG 1 x_9).bind fun x_57 => some x_57)) : Option (Int32))).bind fun r_30 => ((((if x_9 = ((nI gRn) - 1) then ((fX9_off_i gRn gRk gRG 0 x_13).bind fun x_51 => some (-x_51)) else ((fX9_off_i gRn gRk gRG 0 x_13).bind fun x_46 => some x_46)) : Option (Int32))).bind fun r_40 => (if r_30 = r_40 then (if ¬ (x_9 < 0 ∨ gRn ≤ x_9.toNatClampNeg) then (if ¬ (x_13 < 0 ∨ gRk ≤ x_13.toNatClampNeg) then (if ¬ (x_13 < 0 ∨ gRk ≤ x_13.toNatClampNeg) then some (1, x_4.2, upg gRG x_9.toNatClampNeg x_13.toNatClampNeg ((gRG x_9.toNatClampNeg x_13.toNatClampNeg) + r_30)) else none) else none) else none) else some (2, x_4.2, gRG)))) else none) else some (2, x_4.2, gRG)))))) else some (0, x_4.2, gRG))))
abbrev hX9_check : Cond := .code yX9_check cX9_check 5 (some .int)
theorem mX9_check : yM yX9_check hX9_check 0 := ⟨u_1491, u_64, by decide +kernel, by decide +kernel, by decide +kernel⟩
set_option maxHeartbeats 4000000 in
set_option maxRecDepth 100000 in
theorem kX9_check_i (l : Launch) (D : va_G) (cy : Nat → ClassId) (g : Nat) (gth : Int32) (gw : Nat) (gB : Nat) (gK : Nat) (gU : Nat) (gS : Nat) (gbe : Int32) (gwo : Int32) (gta : Int64) (glr : Int32) (glc : Int32) (gti : Int32) (ggo : Int32) (gR : Nat) (gch : Int32) (gD : Nat) (gRd : Nat → Nat) (gRn : Nat) (gRk : Nat) (gRG : Nat → Nat → Int32) {res : Int32 × Int32 × (Nat → Nat → Int32)} (hR : fX9_check_i gch gRn gRk gRG = some res) : YM l D cy yX9_check hX9_check 4 0 0 [.ref g] [[(g, .inr (11, [.int gth, .ref gw, .ref gB, .ref gK, .ref gU, .ref gS, .int gbe, .int gwo, .long gta, .null, .int glr, .int glc, .int gti, .int ggo, .ref gR, .int gch, .ref gD]))], [(gR, .inl (cy 3, gRn, .inr (.inr (.inr (.inr (yad gRd))))))], xg_rows gRd gRn (cy 1) gRk gRG] (fun v u => v = some (.int res.1) ∧ u = [[(g, .inr (11, [.int res.2.1, .ref gw, .ref gB, .ref gK, .ref gU, .ref gS, .int gbe, .int gwo, .long gta, .null, .int glr, .int glc, .int gti, .int ggo, .ref gR, .int gch, .ref gD]))], [(gR, .inl (cy 3, gRn, .inr (.inr (.inr (.inr (yad gRd))))))], xg_rows gRd gRn (cy 1) gRk res.2.2]) := by
  unfold fX9_check_i at hR
  refine YM.ofI (cc := cX9_check) (maxL := 5) (ret := (some .int)) (by decide +kernel) rfl (Nat.le_of_ble_eq_true rfl) [(0, .ref g)] rfl rfl (fun p e s m args below meth c A H0 Q C hnm ret => ?_)
  refine xr_aload_n (n := 1) (j := 0) C dd_X9_check_0.1 rfl rfl ?_
  refine xr_aload_n (n := 2) (j := 0) C dd_X9_check_0.2.1 rfl rfl ?_
  refine xr_get (n := 5) C 0 rfl rfl 14 (by decide) in_X9 u_1251 rfl (v := .ref gR) rfl dd_X9_check_0.2.2.1 rfl ?_
  refine xr_alen (n := 6) C 1 0 rfl 3 rfl rfl dd_X9_check_0.2.2.2.1 rfl ?_
  obtain ⟨r_3, hE_3, hR⟩ := yf_b hR
  have J_3 : X p l e (yR 4 0 0) s m args below meth c D A H0 5 Q [[(g, .inr (11, [.int gth, .ref gw, .ref gB, .ref gK, .ref gU, .ref gS, .int gbe, .int gwo, .long gta, .null, .int glr, .int glc, .int gti, .int ggo, .ref gR, .int gch, .ref gD]))], [(gR, .inl (cy 3, gRn, .inr (.inr (.inr (.inr (yad gRd))))))], xg_rows gRd gRn (cy 1) gRk gRG] 0 0 [(0, .ref g)] 21 [.int r_3, .ref g] := by
    refine xr_iconst (n := 22) (v := 1) C dd_X9_check_0.2.2.2.2.2.2.2.2.2.2.2.1 rfl rfl ?_
    obtain ⟨x_4, hx_4, hR⟩ := yf_b hR
    refine xr_callV (n := 25) (As := [.int r_3, .int 1]) (rest := []) C (kX9_start_i l D cy (g := g) (gth := gth) (gw := gw) (gB := gB) (gK := gK) (gU := gU) (gS := gS) (gbe := gbe) (gwo := gwo) (gta := gta) (glr := glr) (glc := glc) (gti := gti) (ggo := ggo) (gR := gR) (gch := gch) (gD := gD) (i1 := r_3) (i2 := 1) hx_4) mX9_start u_1297 u_1299 u_29 0 rfl rfl 3 [0] [1, 2] rfl (by decide +kernel) rfl rfl rfl rfl (Nat.le_of_ble_eq_true rfl) (Nat.le_of_ble_eq_true rfl) (Nat.le_of_ble_eq_true rfl) (Nat.le_of_ble_eq_true rfl) (Nat.le_of_ble_eq_true rfl) dd_X9_check_0.2.2.2.2.2.2.2.2.2.2.2.2.1 rfl (fun v_5 u_6 hp_7 => ?_)
    obtain ⟨rfl, rfl⟩ := hp_7
    refine xr_perm C 3 [0, 1, 2] [] [[(g, .inr (11, [.int x_4.2, .ref gw, .ref gB, .ref gK, .ref gU, .ref gS, .int gbe, .int gwo, .long gta, .null, .int glr, .int glc, .int gti, .int ggo, .ref gR, .int gch, .ref gD]))], [(gR, .inl (cy 3, gRn, .inr (.inr (.inr (.inr (yad gRd))))))], xg_rows gRd gRn (cy 1) gRk gRG] rfl (by decide +kernel) rfl ?_
    refine xr_st (st' := [.int x_4.1]) rfl ?_
    refine xr_if_eq (tgt := 30) (n := 28) C dd_X9_check_0.2.2.2.2.2.2.2.2.2.2.2.2.2.1 rfl rfl (fun c_8 => ?_) (fun c_8 => ?_)
    · replace hR := yf_t c_8 hR
      refine xr_aload_n (n := 31) (j := 0) C dd_X9_check_1.1 rfl rfl ?_
      refine xr_iconst (n := 32) (v := 1) C dd_X9_check_1.2.1 rfl rfl ?_
      obtain ⟨x_9, hx_9, hR⟩ := yf_b hR
      refine xr_callVp (n := 35) (As := [.int 1]) (rest := []) C (kX9_severalOr_i l D cy (g := g) (gth := x_4.2) (gw := gw) (gB := gB) (gK := gK) (gU := gU) (gS := gS) (gbe := gbe) (gwo := gwo) (gta := gta) (glr := glr) (glc := glc) (gti := gti) (ggo := ggo) (gR := gR) (gch := gch) (gD := gD) (gRd := gRd) (gRn := gRn) (gRk := gRk) (gRG := gRG) (i1 := 1) hx_9) mX9_severalOr u_1492 u_1494 u_46 0 rfl rfl 3 [0, 1, 2] [] rfl (by decide +kernel) rfl rfl rfl rfl (Nat.le_of_ble_eq_true rfl) (Nat.le_of_ble_eq_true rfl) (Nat.le_of_ble_eq_true rfl) (Nat.le_of_ble_eq_true rfl) (Nat.le_of_ble_eq_true rfl) dd_X9_check_1.2.2.1 rfl (fun _ _ hp => hp.2) (fun v_10 hp_12 => ?_)
      obtain ⟨rfl, -⟩ := hp_12
      refine xr_st (st' := [.int x_9]) rfl ?_
      refine xr_istore_n (n := 36) C [(1, .int x_9), (0, .ref g)] dd_X9_check_1.2.2.2.1 (by decide) rfl rfl ?_
      refine xr_aload_n (n := 37) (j := 1) C dd_X9_check_1.2.2.2.2.1 rfl rfl ?_
      refine xr_iconst (n := 38) (v := 0) C dd_X9_check_1.2.2.2.2.2.1 rfl rfl ?_
      obtain ⟨x_13, hx_13, hR⟩ := yf_b hR
      refine xr_callVp (n := 41) (As := [.int 0]) (rest := []) C (kX9_severalOr_i l D cy (g := g) (gth := x_4.2) (gw := gw) (gB := gB) (gK := gK) (gU := gU) (gS := gS) (gbe := gbe) (gwo := gwo) (gta := gta) (glr := glr) (glc := glc) (gti := gti) (ggo := ggo) (gR := gR) (gch := gch) (gD := gD) (gRd := gRd) (gRn := gRn) (gRk := gRk) (gRG := gRG) (i1 := 0) hx_13) mX9_severalOr u_1492 u_1494 u_46 0 rfl rfl 3 [0, 1, 2] [] rfl (by decide +kernel) rfl rfl rfl rfl (Nat.le_of_ble_eq_true rfl) (Nat.le_of_ble_eq_true rfl) (Nat.le_of_ble_eq_true rfl) (Nat.le_of_ble_eq_true rfl) (Nat.le_of_ble_eq_true rfl) dd_X9_check_1.2.2.2.2.2.2.1 rfl (fun _ _ hp => hp.2) (fun v_14 hp_16 => ?_)
      obtain ⟨rfl, -⟩ := hp_16
      refine xr_st (st' := [.int x_13]) rfl ?_
      refine xr_istore_n (n := 42) C [(2, .int x_13), (1, .int x_9), (0, .ref g)] dd_X9_check_1.2.2.2.2.2.2.2.1 (by decide) rfl rfl ?_
      refine xr_iload_n (n := 43) (j := 1) C dd_X9_check_1.2.2.2.2.2.2.2.2.1 rfl rfl ?_
      refine xr_iconst (n := 44) (v := -1) C dd_X9_check_1.2.2.2.2.2.2.2.2.2.1 rfl rfl ?_
      refine xr_icmp_ne (tgt := 54) (n := 47) C dd_X9_check_1.2.2.2.2.2.2.2.2.2.2.1 rfl rfl (fun c_17 => ?_) (fun c_17 => ?_)
      · replace hR := yf_f c_17 hR
        refine xr_iload_n (n := 55) (j := 1) C dd_X9_check_2.1 rfl rfl ?_
        refine xr_if_lt (tgt := 62) (n := 58) C dd_X9_check_2.2.1 rfl rfl (fun c_18 => ?_) (fun c_18 => ?_)
        · replace hR := yf_t c_18 hR
          refine xr_iconst (n := 63) (v := 2) C dd_X9_check_2.2.2.2.2.1 rfl rfl ?_
          obtain rfl := Option.some.inj hR
          exact ret 2 ⟨rfl, rfl⟩ (Nat.le_of_ble_eq_true rfl) (Nat.le_of_ble_eq_true rfl) dd_X9_check_2.2.2.2.2.2.1
        · replace hR := yf_f c_18 hR
          refine xr_iload_n (n := 59) (j := 0) C dd_X9_check_2.2.2.1 rfl rfl ?_
          refine xr_if_ge (tgt := 64) (n := 62) C dd_X9_check_2.2.2.2.1 rfl rfl (fun c_19 => ?_) (fun c_19 => ?_)
          · replace hR := yf_t c_19 hR
            refine xr_iload_n (n := 65) (j := 0) C dd_X9_check_2.2.2.2.2.2.2.1 rfl rfl ?_
            refine xr_aload_n (n := 66) (j := 2) C dd_X9_check_2.2.2.2.2.2.2.2.1 rfl rfl ?_
            refine xr_get (n := 69) C 0 rfl rfl 14 (by decide) in_X9 u_1251 rfl (v := .ref gR) rfl dd_X9_check_2.2.2.2.2.2.2.2.2.1 rfl ?_
            refine xr_iconst (n := 70) (v := 0) C dd_X9_check_2.2.2.2.2.2.2.2.2.2.1 rfl rfl ?_
            obtain ⟨g_20, hR⟩ := yf_g hR
            refine xr_aald (n := 71) C 1 0 rfl 3 rfl rfl g_20 rfl dd_X9_check_2.2.2.2.2.2.2.2.2.2.2.1 rfl ?_
            refine xr_aleng (n := 72) C 2 1 rfl ((0 : Int32).toNatClampNeg) (ylt g_20) rfl dd_X9_check_2.2.2.2.2.2.2.2.2.2.2.2.1 rfl ?_
            refine xr_iconst (n := 73) (v := 1) C dd_X9_check_2.2.2.2.2.2.2.2.2.2.2.2.2.1 rfl rfl ?_
            refine xr_isub (n := 74) C dd_X9_check_2.2.2.2.2.2.2.2.2.2.2.2.2.2.1 rfl ?_
            obtain ⟨r_30, hE_30, hR⟩ := yf_b hR
            have J_30 : X p l e (yR 4 0 0) s m args below meth c D A H0 5 Q [[(g, .inr (11, [.int x_4.2, .ref gw, .ref gB, .ref gK, .ref gU, .ref gS, .int gbe, .int gwo, .long gta, .null, .int glr, .int glc, .int gti, .int ggo, .ref gR, .int gch, .ref gD]))], [(gR, .inl (cy 3, gRn, .inr (.inr (.inr (.inr (yad gRd))))))], xg_rows gRd gRn (cy 1) gRk gRG] 0 0 [(0, .ref g), (1, .int x_9), (2, .int x_13)] 93 [.int r_30] := by
              refine xr_istore_n (n := 94) C [(3, .int r_30), (0, .ref g), (1, .int x_9), (2, .int x_13)] dd_X9_check_3.2.2.2.2.2.2.2.2.2.1 (by decide) rfl rfl ?_
              refine xr_iload_n (n := 95) (j := 2) C dd_X9_check_3.2.2.2.2.2.2.2.2.2.2.1 rfl rfl ?_
              refine xr_aload_n (n := 96) (j := 1) C dd_X9_check_3.2.2.2.2.2.2.2.2.2.2.2.1 rfl rfl ?_
              refine xr_get (n := 99) C 0 rfl rfl 14 (by decide) in_X9 u_1251 rfl (v := .ref gR) rfl dd_X9_check_3.2.2.2.2.2.2.2.2.2.2.2.2.1 rfl ?_
              refine xr_alen (n := 100) C 1 0 rfl 3 rfl rfl dd_X9_check_3.2.2.2.2.2.2.2.2.2.2.2.2.2.1 rfl ?_
              refine xr_iconst (n := 101) (v := 1) C dd_X9_check_3.2.2.2.2.2.2.2.2.2.2.2.2.2.2.1 rfl rfl ?_
              refine xr_isub (n := 102) C dd_X9_check_3.2.2.2.2.2.2.2.2.2.2.2.2.2.2.2.1 rfl ?_
              obtain ⟨r_40, hE_40, hR⟩ := yf_b hR
              have J_40 : X p l e (yR 4 0 0) s m args below meth c D A H0 5 Q [[(g, .inr (11, [.int x_4.2, .ref gw, .ref gB, .ref gK, .ref gU, .ref gS, .int gbe, .int gwo, .long gta, .null, .int glr, .int glc, .int gti, .int ggo, .ref gR, .int gch, .ref gD]))], [(gR, .inl (cy 3, gRn, .inr (.inr (.inr (.inr (yad gRd))))))], xg_rows gRd gRn (cy 1) gRk gRG] 0 0 [(0, .ref g), (1, .int x_9), (2, .int x_13), (3, .int r_30)] 121 [.int r_40] := by
                refine xr_istore (n := 123) C [(4, .int r_40), (0, .ref g), (1, .int x_9), (2, .int x_13), (3, .int r_30)] dd_X9_check_4.2.2.2.2.2.2.2.2.2.2.2.1 (by decide) rfl rfl ?_
                refine xr_iload_n (n := 124) (j := 4) C dd_X9_check_4.2.2.2.2.2.2.2.2.2.2.2.2.1 rfl rfl ?_
                refine xr_iload (n := 126) (j := 0) C dd_X9_check_4.2.2.2.2.2.2.2.2.2.2.2.2.2.1 rfl rfl ?_
                refine xr_icmp_eq (tgt := 131) (n := 129) C dd_X9_check_4.2.2.2.2.2.2.2.2.2.2.2.2.2.2.1 rfl rfl (fun c_41 => ?_) (fun c_41 => ?_)
                · replace hR := yf_t c_41 hR
                  refine xr_aload_n (n := 132) (j := 1) C dd_X9_check_5.2.1 rfl rfl ?_
                  refine xr_get (n := 135) C 0 rfl rfl 14 (by decide) in_X9 u_1251 rfl (v := .ref gR) rfl dd_X9_check_5.2.2.1 rfl ?_
                  refine xr_iload_n (n := 136) (j := 2) C dd_X9_check_5.2.2.2.1 rfl rfl ?_
                  obtain ⟨g_42, hR⟩ := yf_g hR
                  refine xr_aald (n := 137) C 1 0 rfl 3 rfl rfl g_42 rfl dd_X9_check_5.2.2.2.2.1 rfl ?_
                  refine xr_iload_n (n := 138) (j := 3) C dd_X9_check_5.2.2.2.2.2.1 rfl rfl ?_
                  refine xr_dup2 (n := 139) C dd_X9_check_5.2.2.2.2.2.2.1 rfl rfl rfl ?_
                  obtain ⟨g_43, hR⟩ := yf_g hR
                  refine xr_ialdg (n := 140) C 2 rfl x_9.toNatClampNeg (ylt g_42) g_43 dd_X9_check_5.2.2.2.2.2.2.2.1 rfl ?_
                  refine xr_iload_n (n := 141) (j := 4) C dd_X9_check_5.2.2.2.2.2.2.2.2.1 rfl rfl ?_
                  refine xr_iadd (n := 142) C dd_X9_check_5.2.2.2.2.2.2.2.2.2.1 rfl ?_
                  obtain ⟨g_44, hR⟩ := yf_g hR
                  refine xr_iastg (n := 143) C 2 rfl x_9.toNatClampNeg (ylt g_42) g_44 [[(g, .inr (11, [.int x_4.2, .ref gw, .ref gB, .ref gK, .ref gU, .ref gS, .int gbe, .int gwo, .long gta, .null, .int glr, .int glc, .int gti, .int ggo, .ref gR, .int gch, .ref gD]))], [(gR, .inl (cy 3, gRn, .inr (.inr (.inr (.inr (yad gRd))))))], xg_rows gRd gRn (cy 1) gRk (upg gRG x_9.toNatClampNeg x_13.toNatClampNeg ((gRG x_9.toNatClampNeg x_13.toNatClampNeg) + r_30))] rfl dd_X9_check_5.2.2.2.2.2.2.2.2.2.2.1 rfl ?_
                  refine xr_iconst (n := 144) (v := 1) C dd_X9_check_5.2.2.2.2.2.2.2.2.2.2.2.1 rfl rfl ?_
                  obtain rfl := Option.some.inj hR
                  exact ret 1 ⟨rfl, rfl⟩ (Nat.le_of_ble_eq_true rfl) (Nat.le_of_ble_eq_true rfl) dd_X9_check_5.2.2.2.2.2.2.2.2.2.2.2.2.1
                · replace hR := yf_f c_41 hR
                  refine xr_iconst (n := 130) (v := 2) C dd_X9_check_4.2.2.2.2.2.2.2.2.2.2.2.2.2.2.2.1 rfl rfl ?_
                  obtain rfl := Option.some.inj hR
                  exact ret 2 ⟨rfl, rfl⟩ (Nat.le_of_ble_eq_true rfl) (Nat.le_of_ble_eq_true rfl) dd_X9_check_5.1
              refine xr_icmp_ne (tgt := 115) (n := 105) C dd_X9_check_4.1 rfl rfl (fun c_45 => ?_) (fun c_45 => ?_)
              · replace hE_40 := yf_f c_45 hE_40
                refine xr_aload_n (n := 116) (j := 1) C dd_X9_check_4.2.2.2.2.2.2.2.1 rfl rfl ?_
                refine xr_iconst (n := 117) (v := 0) C dd_X9_check_4.2.2.2.2.2.2.2.2.1 rfl rfl ?_
                refine xr_iload_n (n := 118) (j := 3) C dd_X9_check_4.2.2.2.2.2.2.2.2.2.1 rfl rfl ?_
                obtain ⟨x_46, hx_46, hE_40⟩ := yf_b hE_40
                refine xr_callVp (n := 121) (As := [.int 0, .int x_13]) (rest := []) C (kX9_off_i l D cy (g := g) (gth := x_4.2) (gw := gw) (gB := gB) (gK := gK) (gU := gU) (gS := gS) (gbe := gbe) (gwo := gwo) (gta := gta) (glr := glr) (glc := glc) (gti := gti) (ggo := ggo) (gR := gR) (gch := gch) (gD := gD) (gRd := gRd) (gRn := gRn) (gRk := gRk) (gRG := gRG) (i1 := 0) (i2 := x_13) hx_46) mX9_off u_1496 u_1498 u_47 0 rfl rfl 3 [0, 1, 2] [] rfl (by decide +kernel) rfl rfl rfl rfl (Nat.le_of_ble_eq_true rfl) (Nat.le_of_ble_eq_true rfl) (Nat.le_of_ble_eq_true rfl) (Nat.le_of_ble_eq_true rfl) (Nat.le_of_ble_eq_true rfl) dd_X9_check_4.2.2.2.2.2.2.2.2.2.2.1 rfl (fun _ _ hp => hp.2) (fun v_47 hp_49 => ?_)
                obtain ⟨rfl, -⟩ := hp_49
                refine xr_st (st' := [.int x_46]) rfl ?_
                refine xr_lv (lv' := [(0, .ref g), (1, .int x_9), (2, .int x_13), (3, .int r_30)]) [1, 2, 3, 0] rfl ?_
                have e_50 := Option.some.inj hE_40
                subst e_50
                exact J_40
              · replace hE_40 := yf_t c_45 hE_40
                refine xr_aload_n (n := 106) (j := 1) C dd_X9_check_4.2.1 rfl rfl ?_
                refine xr_iconst (n := 107) (v := 0) C dd_X9_check_4.2.2.1 rfl rfl ?_
                refine xr_iload_n (n := 108) (j := 3) C dd_X9_check_4.2.2.2.1 rfl rfl ?_
                obtain ⟨x_51, hx_51, hE_40⟩ := yf_b hE_40
                refine xr_callVp (n := 111) (As := [.int 0, .int x_13]) (rest := []) C (kX9_off_i l D cy (g := g) (gth := x_4.2) (gw := gw) (gB := gB) (gK := gK) (gU := gU) (gS := gS) (gbe := gbe) (gwo := gwo) (gta := gta) (glr := glr) (glc := glc) (gti := gti) (ggo := ggo) (gR := gR) (gch := gch) (gD := gD) (gRd := gRd) (gRn := gRn) (gRk := gRk) (gRG := gRG) (i1 := 0) (i2 := x_13) hx_51) mX9_off u_1496 u_1498 u_47 0 rfl rfl 3 [0, 1, 2] [] rfl (by decide +kernel) rfl rfl rfl rfl (Nat.le_of_ble_eq_true rfl) (Nat.le_of_ble_eq_true rfl) (Nat.le_of_ble_eq_true rfl) (Nat.le_of_ble_eq_true rfl) (Nat.le_of_ble_eq_true rfl) dd_X9_check_4.2.2.2.2.1 rfl (fun _ _ hp => hp.2) (fun v_52 hp_54 => ?_)
                obtain ⟨rfl, -⟩ := hp_54
                refine xr_st (st' := [.int x_51]) rfl ?_
                refine xr_ineg (n := 112) C dd_X9_check_4.2.2.2.2.2.1 rfl ?_
                refine xr_goto (tgt := 121) C dd_X9_check_4.2.2.2.2.2.2.1 rfl ?_
                refine xr_lv (lv' := [(0, .ref g), (1, .int x_9), (2, .int x_13), (3, .int r_30)]) [1, 2, 3, 0] rfl ?_
                have e_55 := Option.some.inj hE_40
                subst e_55
                exact J_40
            refine xr_icmp_ne (tgt := 87) (n := 77) C dd_X9_check_2.2.2.2.2.2.2.2.2.2.2.2.2.2.2.1 rfl rfl (fun c_56 => ?_) (fun c_56 => ?_)
            · replace hE_30 := yf_f c_56 hE_30
              refine xr_aload_n (n := 88) (j := 2) C dd_X9_check_3.2.2.2.2.2.1 rfl rfl ?_
              refine xr_iconst (n := 89) (v := 1) C dd_X9_check_3.2.2.2.2.2.2.1 rfl rfl ?_
              refine xr_iload_n (n := 90) (j := 1) C dd_X9_check_3.2.2.2.2.2.2.2.1 rfl rfl ?_
              obtain ⟨x_57, hx_57, hE_30⟩ := yf_b hE_30
              refine xr_callVp (n := 93) (As := [.int 1, .int x_9]) (rest := []) C (kX9_off_i l D cy (g := g) (gth := x_4.2) (gw := gw) (gB := gB) (gK := gK) (gU := gU) (gS := gS) (gbe := gbe) (gwo := gwo) (gta := gta) (glr := glr) (glc := glc) (gti := gti) (ggo := ggo) (gR := gR) (gch := gch) (gD := gD) (gRd := gRd) (gRn := gRn) (gRk := gRk) (gRG := gRG) (i1 := 1) (i2 := x_9) hx_57) mX9_off u_1496 u_1498 u_47 0 rfl rfl 3 [0, 1, 2] [] rfl (by decide +kernel) rfl rfl rfl rfl (Nat.le_of_ble_eq_true rfl) (Nat.le_of_ble_eq_true rfl) (Nat.le_of_ble_eq_true rfl) (Nat.le_of_ble_eq_true rfl) (Nat.le_of_ble_eq_true rfl) dd_X9_check_3.2.2.2.2.2.2.2.2.1 rfl (fun _ _ hp => hp.2) (fun v_58 hp_60 => ?_)
              obtain ⟨rfl, -⟩ := hp_60
              refine xr_st (st' := [.int x_57]) rfl ?_
              refine xr_lv (lv' := [(0, .ref g), (1, .int x_9), (2, .int x_13)]) [2, 1, 0] rfl ?_
              have e_61 := Option.some.inj hE_30
              subst e_61
              exact J_30
            · replace hE_30 := yf_t c_56 hE_30
              refine xr_aload_n (n := 78) (j := 2) C dd_X9_check_2.2.2.2.2.2.2.2.2.2.2.2.2.2.2.2.1 rfl rfl ?_
              refine xr_iconst (n := 79) (v := 1) C dd_X9_check_3.1 rfl rfl ?_
              refine xr_iload_n (n := 80) (j := 1) C dd_X9_check_3.2.1 rfl rfl ?_
              obtain ⟨x_62, hx_62, hE_30⟩ := yf_b hE_30
              refine xr_callVp (n := 83) (As := [.int 1, .int x_9]) (rest := []) C (kX9_off_i l D cy (g := g) (gth := x_4.2) (gw := gw) (gB := gB) (gK := gK) (gU := gU) (gS := gS) (gbe := gbe) (gwo := gwo) (gta := gta) (glr := glr) (glc := glc) (gti := gti) (ggo := ggo) (gR := gR) (gch := gch) (gD := gD) (gRd := gRd) (gRn := gRn) (gRk := gRk) (gRG := gRG) (i1 := 1) (i2 := x_9) hx_62) mX9_off u_1496 u_1498 u_47 0 rfl rfl 3 [0, 1, 2] [] rfl (by decide +kernel) rfl rfl rfl rfl (Nat.le_of_ble_eq_true rfl) (Nat.le_of_ble_eq_true rfl) (Nat.le_of_ble_eq_true rfl) (Nat.le_of_ble_eq_true rfl) (Nat.le_of_ble_eq_true rfl) dd_X9_check_3.2.2.1 rfl (fun _ _ hp => hp.2) (fun v_63 hp_65 => ?_)
              obtain ⟨rfl, -⟩ := hp_65
              refine xr_st (st' := [.int x_62]) rfl ?_
              refine xr_ineg (n := 84) C dd_X9_check_3.2.2.2.1 rfl ?_
              refine xr_goto (tgt := 93) C dd_X9_check_3.2.2.2.2.1 rfl ?_
              refine xr_lv (lv' := [(0, .ref g), (1, .int x_9), (2, .int x_13)]) [2, 1, 0] rfl ?_
              have e_66 := Option.some.inj hE_30
              subst e_66
              exact J_30
          · replace hR := yf_f c_19 hR
            refine xr_iconst (n := 63) (v := 2) C dd_X9_check_2.2.2.2.2.1 rfl rfl ?_
            obtain rfl := Option.some.inj hR
            exact ret 2 ⟨rfl, rfl⟩ (Nat.le_of_ble_eq_true rfl) (Nat.le_of_ble_eq_true rfl) dd_X9_check_2.2.2.2.2.2.1
      · replace hR := yf_t c_17 hR
        refine xr_iload_n (n := 48) (j := 0) C dd_X9_check_1.2.2.2.2.2.2.2.2.2.2.2.1 rfl rfl ?_
        refine xr_iconst (n := 49) (v := -1) C dd_X9_check_1.2.2.2.2.2.2.2.2.2.2.2.2.1 rfl rfl ?_
        refine xr_icmp_ne (tgt := 54) (n := 52) C dd_X9_check_1.2.2.2.2.2.2.2.2.2.2.2.2.2.1 rfl rfl (fun c_67 => ?_) (fun c_67 => ?_)
        · replace hR := yf_f c_67 hR
          refine xr_iload_n (n := 55) (j := 1) C dd_X9_check_2.1 rfl rfl ?_
          refine xr_if_lt (tgt := 62) (n := 58) C dd_X9_check_2.2.1 rfl rfl (fun c_68 => ?_) (fun c_68 => ?_)
          · replace hR := yf_t c_68 hR
            refine xr_iconst (n := 63) (v := 2) C dd_X9_check_2.2.2.2.2.1 rfl rfl ?_
            obtain rfl := Option.some.inj hR
            exact ret 2 ⟨rfl, rfl⟩ (Nat.le_of_ble_eq_true rfl) (Nat.le_of_ble_eq_true rfl) dd_X9_check_2.2.2.2.2.2.1
          · replace hR := yf_f c_68 hR
            refine xr_iload_n (n := 59) (j := 0) C dd_X9_check_2.2.2.1 rfl rfl ?_
            refine xr_if_ge (tgt := 64) (n := 62) C dd_X9_check_2.2.2.2.1 rfl rfl (fun c_69 => ?_) (fun c_69 => ?_)
            · replace hR := yf_t c_69 hR
              refine xr_iload_n (n := 65) (j := 0) C dd_X9_check_2.2.2.2.2.2.2.1 rfl rfl ?_
              refine xr_aload_n (n := 66) (j := 2) C dd_X9_check_2.2.2.2.2.2.2.2.1 rfl rfl ?_
              refine xr_get (n := 69) C 0 rfl rfl 14 (by decide) in_X9 u_1251 rfl (v := .ref gR) rfl dd_X9_check_2.2.2.2.2.2.2.2.2.1 rfl ?_
              refine xr_iconst (n := 70) (v := 0) C dd_X9_check_2.2.2.2.2.2.2.2.2.2.1 rfl rfl ?_
              obtain ⟨g_70, hR⟩ := yf_g hR
              refine xr_aald (n := 71) C 1 0 rfl 3 rfl rfl g_70 rfl dd_X9_check_2.2.2.2.2.2.2.2.2.2.2.1 rfl ?_
              refine xr_aleng (n := 72) C 2 1 rfl ((0 : Int32).toNatClampNeg) (ylt g_70) rfl dd_X9_check_2.2.2.2.2.2.2.2.2.2.2.2.1 rfl ?_
              refine xr_iconst (n := 73) (v := 1) C dd_X9_check_2.2.2.2.2.2.2.2.2.2.2.2.2.1 rfl rfl ?_
              refine xr_isub (n := 74) C dd_X9_check_2.2.2.2.2.2.2.2.2.2.2.2.2.2.1 rfl ?_
              obtain ⟨r_80, hE_80, hR⟩ := yf_b hR
              have J_80 : X p l e (yR 4 0 0) s m args below meth c D A H0 5 Q [[(g, .inr (11, [.int x_4.2, .ref gw, .ref gB, .ref gK, .ref gU, .ref gS, .int gbe, .int gwo, .long gta, .null, .int glr, .int glc, .int gti, .int ggo, .ref gR, .int gch, .ref gD]))], [(gR, .inl (cy 3, gRn, .inr (.inr (.inr (.inr (yad gRd))))))], xg_rows gRd gRn (cy 1) gRk gRG] 0 0 [(0, .ref g), (1, .int x_9), (2, .int x_13)] 93 [.int r_80] := by
                refine xr_istore_n (n := 94) C [(3, .int r_80), (0, .ref g), (1, .int x_9), (2, .int x_13)] dd_X9_check_3.2.2.2.2.2.2.2.2.2.1 (by decide) rfl rfl ?_
                refine xr_iload_n (n := 95) (j := 2) C dd_X9_check_3.2.2.2.2.2.2.2.2.2.2.1 rfl rfl ?_
                refine xr_aload_n (n := 96) (j := 1) C dd_X9_check_3.2.2.2.2.2.2.2.2.2.2.2.1 rfl rfl ?_
                refine xr_get (n := 99) C 0 rfl rfl 14 (by decide) in_X9 u_1251 rfl (v := .ref gR) rfl dd_X9_check_3.2.2.2.2.2.2.2.2.2.2.2.2.1 rfl ?_
                refine xr_alen (n := 100) C 1 0 rfl 3 rfl rfl dd_X9_check_3.2.2.2.2.2.2.2.2.2.2.2.2.2.1 rfl ?_
                refine xr_iconst (n := 101) (v := 1) C dd_X9_check_3.2.2.2.2.2.2.2.2.2.2.2.2.2.2.1 rfl rfl ?_
                refine xr_isub (n := 102) C dd_X9_check_3.2.2.2.2.2.2.2.2.2.2.2.2.2.2.2.1 rfl ?_
                obtain ⟨r_90, hE_90, hR⟩ := yf_b hR
                have J_90 : X p l e (yR 4 0 0) s m args below meth c D A H0 5 Q [[(g, .inr (11, [.int x_4.2, .ref gw, .ref gB, .ref gK, .ref gU, .ref gS, .int gbe, .int gwo, .long gta, .null, .int glr, .int glc, .int gti, .int ggo, .ref gR, .int gch, .ref gD]))], [(gR, .inl (cy 3, gRn, .inr (.inr (.inr (.inr (yad gRd))))))], xg_rows gRd gRn (cy 1) gRk gRG] 0 0 [(0, .ref g), (1, .int x_9), (2, .int x_13), (3, .int r_80)] 121 [.int r_90] := by
                  refine xr_istore (n := 123) C [(4, .int r_90), (0, .ref g), (1, .int x_9), (2, .int x_13), (3, .int r_80)] dd_X9_check_4.2.2.2.2.2.2.2.2.2.2.2.1 (by decide) rfl rfl ?_
                  refine xr_iload_n (n := 124) (j := 4) C dd_X9_check_4.2.2.2.2.2.2.2.2.2.2.2.2.1 rfl rfl ?_
                  refine xr_iload (n := 126) (j := 0) C dd_X9_check_4.2.2.2.2.2.2.2.2.2.2.2.2.2.1 rfl rfl ?_
                  refine xr_icmp_eq (tgt := 131) (n := 129) C dd_X9_check_4.2.2.2.2.2.2.2.2.2.2.2.2.2.2.1 rfl rfl (fun c_91 => ?_) (fun c_91 => ?_)
                  · replace hR := yf_t c_91 hR
                    refine xr_aload_n (n := 132) (j := 1) C dd_X9_check_5.2.1 rfl rfl ?_
                    refine xr_get (n := 135) C 0 rfl rfl 14 (by decide) in_X9 u_1251 rfl (v := .ref gR) rfl dd_X9_check_5.2.2.1 rfl ?_
                    refine xr_iload_n (n := 136) (j := 2) C dd_X9_check_5.2.2.2.1 rfl rfl ?_
                    obtain ⟨g_92, hR⟩ := yf_g hR
                    refine xr_aald (n := 137) C 1 0 rfl 3 rfl rfl g_92 rfl dd_X9_check_5.2.2.2.2.1 rfl ?_
                    refine xr_iload_n (n := 138) (j := 3) C dd_X9_check_5.2.2.2.2.2.1 rfl rfl ?_
                    refine xr_dup2 (n := 139) C dd_X9_check_5.2.2.2.2.2.2.1 rfl rfl rfl ?_
                    obtain ⟨g_93, hR⟩ := yf_g hR
                    refine xr_ialdg (n := 140) C 2 rfl x_9.toNatClampNeg (ylt g_92) g_93 dd_X9_check_5.2.2.2.2.2.2.2.1 rfl ?_
                    refine xr_iload_n (n := 141) (j := 4) C dd_X9_check_5.2.2.2.2.2.2.2.2.1 rfl rfl ?_
                    refine xr_iadd (n := 142) C dd_X9_check_5.2.2.2.2.2.2.2.2.2.1 rfl ?_
                    obtain ⟨g_94, hR⟩ := yf_g hR
                    refine xr_iastg (n := 143) C 2 rfl x_9.toNatClampNeg (ylt g_92) g_94 [[(g, .inr (11, [.int x_4.2, .ref gw, .ref gB, .ref gK, .ref gU, .ref gS, .int gbe, .int gwo, .long gta, .null, .int glr, .int glc, .int gti, .int ggo, .ref gR, .int gch, .ref gD]))], [(gR, .inl (cy 3, gRn, .inr (.inr (.inr (.inr (yad gRd))))))], xg_rows gRd gRn (cy 1) gRk (upg gRG x_9.toNatClampNeg x_13.toNatClampNeg ((gRG x_9.toNatClampNeg x_13.toNatClampNeg) + r_80))] rfl dd_X9_check_5.2.2.2.2.2.2.2.2.2.2.1 rfl ?_
                    refine xr_iconst (n := 144) (v := 1) C dd_X9_check_5.2.2.2.2.2.2.2.2.2.2.2.1 rfl rfl ?_
                    obtain rfl := Option.some.inj hR
                    exact ret 1 ⟨rfl, rfl⟩ (Nat.le_of_ble_eq_true rfl) (Nat.le_of_ble_eq_true rfl) dd_X9_check_5.2.2.2.2.2.2.2.2.2.2.2.2.1
                  · replace hR := yf_f c_91 hR
                    refine xr_iconst (n := 130) (v := 2) C dd_X9_check_4.2.2.2.2.2.2.2.2.2.2.2.2.2.2.2.1 rfl rfl ?_
                    obtain rfl := Option.some.inj hR
                    exact ret 2 ⟨rfl, rfl⟩ (Nat.le_of_ble_eq_true rfl) (Nat.le_of_ble_eq_true rfl) dd_X9_check_5.1
                refine xr_icmp_ne (tgt := 115) (n := 105) C dd_X9_check_4.1 rfl rfl (fun c_95 => ?_) (fun c_95 => ?_)
                · replace hE_90 := yf_f c_95 hE_90
                  refine xr_aload_n (n := 116) (j := 1) C dd_X9_check_4.2.2.2.2.2.2.2.1 rfl rfl ?_
                  refine xr_iconst (n := 117) (v := 0) C dd_X9_check_4.2.2.2.2.2.2.2.2.1 rfl rfl ?_
                  refine xr_iload_n (n := 118) (j := 3) C dd_X9_check_4.2.2.2.2.2.2.2.2.2.1 rfl rfl ?_
                  obtain ⟨x_96, hx_96, hE_90⟩ := yf_b hE_90
                  refine xr_callVp (n := 121) (As := [.int 0, .int x_13]) (rest := []) C (kX9_off_i l D cy (g := g) (gth := x_4.2) (gw := gw) (gB := gB) (gK := gK) (gU := gU) (gS := gS) (gbe := gbe) (gwo := gwo) (gta := gta) (glr := glr) (glc := glc) (gti := gti) (ggo := ggo) (gR := gR) (gch := gch) (gD := gD) (gRd := gRd) (gRn := gRn) (gRk := gRk) (gRG := gRG) (i1 := 0) (i2 := x_13) hx_96) mX9_off u_1496 u_1498 u_47 0 rfl rfl 3 [0, 1, 2] [] rfl (by decide +kernel) rfl rfl rfl rfl (Nat.le_of_ble_eq_true rfl) (Nat.le_of_ble_eq_true rfl) (Nat.le_of_ble_eq_true rfl) (Nat.le_of_ble_eq_true rfl) (Nat.le_of_ble_eq_true rfl) dd_X9_check_4.2.2.2.2.2.2.2.2.2.2.1 rfl (fun _ _ hp => hp.2) (fun v_97 hp_99 => ?_)
                  obtain ⟨rfl, -⟩ := hp_99
                  refine xr_st (st' := [.int x_96]) rfl ?_
                  refine xr_lv (lv' := [(0, .ref g), (1, .int x_9), (2, .int x_13), (3, .int r_80)]) [1, 2, 3, 0] rfl ?_
                  have e_100 := Option.some.inj hE_90
                  subst e_100
                  exact J_90
                · replace hE_90 := yf_t c_95 hE_90
                  refine xr_aload_n (n := 106) (j := 1) C dd_X9_check_4.2.1 rfl rfl ?_
                  refine xr_iconst (n := 107) (v := 0) C dd_X9_check_4.2.2.1 rfl rfl ?_
                  refine xr_iload_n (n := 108) (j := 3) C dd_X9_check_4.2.2.2.1 rfl rfl ?_
                  obtain ⟨x_101, hx_101, hE_90⟩ := yf_b hE_90
                  refine xr_callVp (n := 111) (As := [.int 0, .int x_13]) (rest := []) C (kX9_off_i l D cy (g := g) (gth := x_4.2) (gw := gw) (gB := gB) (gK := gK) (gU := gU) (gS := gS) (gbe := gbe) (gwo := gwo) (gta := gta) (glr := glr) (glc := glc) (gti := gti) (ggo := ggo) (gR := gR) (gch := gch) (gD := gD) (gRd := gRd) (gRn := gRn) (gRk := gRk) (gRG := gRG) (i1 := 0) (i2 := x_13) hx_101) mX9_off u_1496 u_1498 u_47 0 rfl rfl 3 [0, 1, 2] [] rfl (by decide +kernel) rfl rfl rfl rfl (Nat.le_of_ble_eq_true rfl) (Nat.le_of_ble_eq_true rfl) (Nat.le_of_ble_eq_true rfl) (Nat.le_of_ble_eq_true rfl) (Nat.le_of_ble_eq_true rfl) dd_X9_check_4.2.2.2.2.1 rfl (fun _ _ hp => hp.2) (fun v_102 hp_104 => ?_)
                  obtain ⟨rfl, -⟩ := hp_104
                  refine xr_st (st' := [.int x_101]) rfl ?_
                  refine xr_ineg (n := 112) C dd_X9_check_4.2.2.2.2.2.1 rfl ?_
                  refine xr_goto (tgt := 121) C dd_X9_check_4.2.2.2.2.2.2.1 rfl ?_
                  refine xr_lv (lv' := [(0, .ref g), (1, .int x_9), (2, .int x_13), (3, .int r_80)]) [1, 2, 3, 0] rfl ?_
                  have e_105 := Option.some.inj hE_90
                  subst e_105
                  exact J_90
              refine xr_icmp_ne (tgt := 87) (n := 77) C dd_X9_check_2.2.2.2.2.2.2.2.2.2.2.2.2.2.2.1 rfl rfl (fun c_106 => ?_) (fun c_106 => ?_)
              · replace hE_80 := yf_f c_106 hE_80
                refine xr_aload_n (n := 88) (j := 2) C dd_X9_check_3.2.2.2.2.2.1 rfl rfl ?_
                refine xr_iconst (n := 89) (v := 1) C dd_X9_check_3.2.2.2.2.2.2.1 rfl rfl ?_
                refine xr_iload_n (n := 90) (j := 1) C dd_X9_check_3.2.2.2.2.2.2.2.1 rfl rfl ?_
                obtain ⟨x_107, hx_107, hE_80⟩ := yf_b hE_80
                refine xr_callVp (n := 93) (As := [.int 1, .int x_9]) (rest := []) C (kX9_off_i l D cy (g := g) (gth := x_4.2) (gw := gw) (gB := gB) (gK := gK) (gU := gU) (gS := gS) (gbe := gbe) (gwo := gwo) (gta := gta) (glr := glr) (glc := glc) (gti := gti) (ggo := ggo) (gR := gR) (gch := gch) (gD := gD) (gRd := gRd) (gRn := gRn) (gRk := gRk) (gRG := gRG) (i1 := 1) (i2 := x_9) hx_107) mX9_off u_1496 u_1498 u_47 0 rfl rfl 3 [0, 1, 2] [] rfl (by decide +kernel) rfl rfl rfl rfl (Nat.le_of_ble_eq_true rfl) (Nat.le_of_ble_eq_true rfl) (Nat.le_of_ble_eq_true rfl) (Nat.le_of_ble_eq_true rfl) (Nat.le_of_ble_eq_true rfl) dd_X9_check_3.2.2.2.2.2.2.2.2.1 rfl (fun _ _ hp => hp.2) (fun v_108 hp_110 => ?_)
                obtain ⟨rfl, -⟩ := hp_110
                refine xr_st (st' := [.int x_107]) rfl ?_
                refine xr_lv (lv' := [(0, .ref g), (1, .int x_9), (2, .int x_13)]) [2, 1, 0] rfl ?_
                have e_111 := Option.some.inj hE_80
                subst e_111
                exact J_80
              · replace hE_80 := yf_t c_106 hE_80
                refine xr_aload_n (n := 78) (j := 2) C dd_X9_check_2.2.2.2.2.2.2.2.2.2.2.2.2.2.2.2.1 rfl rfl ?_
                refine xr_iconst (n := 79) (v := 1) C dd_X9_check_3.1 rfl rfl ?_
                refine xr_iload_n (n := 80) (j := 1) C dd_X9_check_3.2.1 rfl rfl ?_
                obtain ⟨x_112, hx_112, hE_80⟩ := yf_b hE_80
                refine xr_callVp (n := 83) (As := [.int 1, .int x_9]) (rest := []) C (kX9_off_i l D cy (g := g) (gth := x_4.2) (gw := gw) (gB := gB) (gK := gK) (gU := gU) (gS := gS) (gbe := gbe) (gwo := gwo) (gta := gta) (glr := glr) (glc := glc) (gti := gti) (ggo := ggo) (gR := gR) (gch := gch) (gD := gD) (gRd := gRd) (gRn := gRn) (gRk := gRk) (gRG := gRG) (i1 := 1) (i2 := x_9) hx_112) mX9_off u_1496 u_1498 u_47 0 rfl rfl 3 [0, 1, 2] [] rfl (by decide +kernel) rfl rfl rfl rfl (Nat.le_of_ble_eq_true rfl) (Nat.le_of_ble_eq_true rfl) (Nat.le_of_ble_eq_true rfl) (Nat.le_of_ble_eq_true rfl) (Nat.le_of_ble_eq_true rfl) dd_X9_check_3.2.2.1 rfl (fun _ _ hp => hp.2) (fun v_113 hp_115 => ?_)
                obtain ⟨rfl, -⟩ := hp_115
                refine xr_st (st' := [.int x_112]) rfl ?_
                refine xr_ineg (n := 84) C dd_X9_check_3.2.2.2.1 rfl ?_
                refine xr_goto (tgt := 93) C dd_X9_check_3.2.2.2.2.1 rfl ?_
                refine xr_lv (lv' := [(0, .ref g), (1, .int x_9), (2, .int x_13)]) [2, 1, 0] rfl ?_
                have e_116 := Option.some.inj hE_80
                subst e_116
                exact J_80
            · replace hR := yf_f c_69 hR
              refine xr_iconst (n := 63) (v := 2) C dd_X9_check_2.2.2.2.2.1 rfl rfl ?_
              obtain rfl := Option.some.inj hR
              exact ret 2 ⟨rfl, rfl⟩ (Nat.le_of_ble_eq_true rfl) (Nat.le_of_ble_eq_true rfl) dd_X9_check_2.2.2.2.2.2.1
        · replace hR := yf_t c_67 hR
          refine xr_iconst (n := 53) (v := 0) C dd_X9_check_1.2.2.2.2.2.2.2.2.2.2.2.2.2.2.1 rfl rfl ?_
          obtain rfl := Option.some.inj hR
          exact ret 0 ⟨rfl, rfl⟩ (Nat.le_of_ble_eq_true rfl) (Nat.le_of_ble_eq_true rfl) dd_X9_check_1.2.2.2.2.2.2.2.2.2.2.2.2.2.2.2.1
    · replace hR := yf_f c_8 hR
      refine xr_iconst (n := 29) (v := 0) C dd_X9_check_0.2.2.2.2.2.2.2.2.2.2.2.2.2.2.1 rfl rfl ?_
      obtain rfl := Option.some.inj hR
      exact ret 0 ⟨rfl, rfl⟩ (Nat.le_of_ble_eq_true rfl) (Nat.le_of_ble_eq_true rfl) dd_X9_check_0.2.2.2.2.2.2.2.2.2.2.2.2.2.2.2.1
  refine xr_if_eq (tgt := 16) (n := 9) C dd_X9_check_0.2.2.2.2.1 rfl rfl (fun c_117 => ?_) (fun c_117 => ?_)
  · replace hE_3 := yf_t c_117 hE_3
    refine xr_iconst (n := 17) (v := 1) C dd_X9_check_0.2.2.2.2.2.2.2.2.1 rfl rfl ?_
    refine xr_goto (tgt := 21) C dd_X9_check_0.2.2.2.2.2.2.2.2.2.1 rfl ?_
    have e_118 := Option.some.inj hE_3
    subst e_118
    exact J_3
  · replace hE_3 := yf_f c_117 hE_3
    refine xr_aload_n (n := 10) (j := 0) C dd_X9_check_0.2.2.2.2.2.1 rfl rfl ?_
    refine xr_get (n := 13) C 0 rfl rfl 15 (by decide) in_X9 u_1252 rfl (v := .int gch) rfl dd_X9_check_0.2.2.2.2.2.2.1 rfl ?_
    refine xr_if_ne (tgt := 20) (n := 16) C dd_X9_check_0.2.2.2.2.2.2.2.1 rfl rfl (fun c_119 => ?_) (fun c_119 => ?_)
    · replace hE_3 := yf_f c_119 hE_3
      refine xr_iconst (n := 21) (v := 0) C dd_X9_check_0.2.2.2.2.2.2.2.2.2.2.1 rfl rfl ?_
      have e_120 := Option.some.inj hE_3
      subst e_120
      exact J_3
    · replace hE_3 := yf_t c_119 hE_3
      refine xr_iconst (n := 17) (v := 1) C dd_X9_check_0.2.2.2.2.2.2.2.2.1 rfl rfl ?_
      refine xr_goto (tgt := 21) C dd_X9_check_0.2.2.2.2.2.2.2.2.2.1 rfl ?_
      have e_121 := Option.some.inj hE_3
      subst e_121
      exact J_3
def fX9_check_r (gch : Int32) (gRn : Nat) (gRk : Nat) (gRG : Nat → Nat → Int32) : Option (Int32 × Int32 × (Nat → Nat → Int32)) := ((((if (nI gRn) = 0 then some 1 else (if gch = 0 then some 1 else some 0)) : Option (Int32))).bind fun r_3 => ((fX9_start_r r_3 1).bind fun x_4 => (if x_4.1 = 0 then ((fX9_severalOr_r gRn gRk gRG 1).bind fun x_9 => ((fX9_severalOr_r gRn gRk gRG 0).bind fun x_13 => (if x_9 = (-1) then (if x_13 = (-1) then some (0, x_4.2, gRG) else (if x_9 < 0 then some (2, x_4.2, gRG) else (if 0 ≤ x_13 then (if ¬ ((0 : Int32) < 0 ∨ gRn ≤ (0 : Int32).toNatClampNeg) then ((((if x_13 = ((nI gRk) - 1) then ((fX9_off_r gRn gRk gRG 1 x_9).bind fun x_112 => some (-x_112)) else ((fX9_off_r gRn gRk gRG 1 x_9).bind fun x_107 => some x_107)) : Option (Int32))).bind fun r_80 => ((((if x_9 = ((nI gRn) - 1) then ((fX9_off_r gRn gRk gRG 0 x_13).bind fun x_101 => some (-x_101)) else ((fX9_off_r gRn gRk gRG 0 x_13).bind fun x_96 => some x_96)) : Option (Int32))).bind fun r_90 => (if r_80 = r_90 then (if ¬ (x_9 < 0 ∨ gRn ≤ x_9.toNatClampNeg) then (if ¬ (x_13 < 0 ∨ gRk ≤ x_13.toNatClampNeg) then (if ¬ (x_13 < 0 ∨ gRk ≤ x_13.toNatClampNeg) then some (1, x_4.2, upg gRG x_9.toNatClampNeg x_13.toNatClampNeg ((gRG x_9.toNatClampNeg x_13.toNatClampNeg) + r_80)) else none) else none) else none) else some (2, x_4.2, gRG)))) else none) else some (2, x_4.2, gRG)))) else (if x_9 < 0 then some (2, x_4.2, gRG) else (if 0 ≤ x_13 then (if ¬ ((0 : Int32) < 0 ∨ gRn ≤ (0 : Int32).toNatClampNeg) then ((((if x_13 = ((nI gRk) - 1) then ((fX9_off_r gRn gRk gRG 1 x_9).bind fun x_62 => some (-x_62)) else ((fX9_off_r gRn gRk gRG 1 x_9).bind fun x_57 => some x_57)) : Option (Int32))).bind fun r_30 => ((((if x_9 = ((nI gRn) - 1) then ((fX9_off_r gRn gRk gRG 0 x_13).bind fun x_51 => some (-x_51)) else ((fX9_off_r gRn gRk gRG 0 x_13).bind fun x_46 => some x_46)) : Option (Int32))).bind fun r_40 => (if r_30 = r_40 then (if ¬ (x_9 < 0 ∨ gRn ≤ x_9.toNatClampNeg) then (if ¬ (x_13 < 0 ∨ gRk ≤ x_13.toNatClampNeg) then (if ¬ (x_13 < 0 ∨ gRk ≤ x_13.toNatClampNeg) then some (1, x_4.2, upg gRG x_9.toNatClampNeg x_13.toNatClampNeg ((gRG x_9.toNatClampNeg x_13.toNatClampNeg) + r_30)) else none) else none) else none) else some (2, x_4.2, gRG)))) else none) else some (2, x_4.2, gRG)))))) else some (0, x_4.2, gRG))))
set_option maxHeartbeats 4000000 in
set_option maxRecDepth 100000 in
theorem kX9_check_r (l : Launch) (D : va_G) (cy : Nat → ClassId) (g : Nat) (gth : Int32) (gw : Nat) (gB : Nat) (gK : Nat) (gU : Nat) (gS : Nat) (gbe : Int32) (gwo : Int32) (gta : Int64) (gn : Nat) (glr : Int32) (glc : Int32) (gti : Int32) (ggo : Int32) (gR : Nat) (gch : Int32) (gD : Nat) (gRd : Nat → Nat) (gRn : Nat) (gRk : Nat) (gRG : Nat → Nat → Int32) {res : Int32 × Int32 × (Nat → Nat → Int32)} (hR : fX9_check_r gch gRn gRk gRG = some res) : YM l D cy yX9_check hX9_check 4 0 0 [.ref g] [[(g, .inr (11, [.int gth, .ref gw, .ref gB, .ref gK, .ref gU, .ref gS, .int gbe, .int gwo, .long gta, .ref gn, .int glr, .int glc, .int gti, .int ggo, .ref gR, .int gch, .ref gD]))], [(gR, .inl (cy 3, gRn, .inr (.inr (.inr (.inr (yad gRd))))))], xg_rows gRd gRn (cy 1) gRk gRG] (fun v u => v = some (.int res.1) ∧ u = [[(g, .inr (11, [.int res.2.1, .ref gw, .ref gB, .ref gK, .ref gU, .ref gS, .int gbe, .int gwo, .long gta, .ref gn, .int glr, .int glc, .int gti, .int ggo, .ref gR, .int gch, .ref gD]))], [(gR, .inl (cy 3, gRn, .inr (.inr (.inr (.inr (yad gRd))))))], xg_rows gRd gRn (cy 1) gRk res.2.2]) := by
  unfold fX9_check_r at hR
  refine YM.ofI (cc := cX9_check) (maxL := 5) (ret := (some .int)) (by decide +kernel) rfl (Nat.le_of_ble_eq_true rfl) [(0, .ref g)] rfl rfl (fun p e s m args below meth c A H0 Q C hnm ret => ?_)
  refine xr_aload_n (n := 1) (j := 0) C dd_X9_check_0.1 rfl rfl ?_
  refine xr_aload_n (n := 2) (j := 0) C dd_X9_check_0.2.1 rfl rfl ?_
  refine xr_get (n := 5) C 0 rfl rfl 14 (by decide) in_X9 u_1251 rfl (v := .ref gR) rfl dd_X9_check_0.2.2.1 rfl ?_
  refine xr_alen (n := 6) C 1 0 rfl 3 rfl rfl dd_X9_check_0.2.2.2.1 rfl ?_
  obtain ⟨r_3, hE_3, hR⟩ := yf_b hR
  have J_3 : X p l e (yR 4 0 0) s m args below meth c D A H0 5 Q [[(g, .inr (11, [.int gth, .ref gw, .ref gB, .ref gK, .ref gU, .ref gS, .int gbe, .int gwo, .long gta, .ref gn, .int glr, .int glc, .int gti, .int ggo, .ref gR, .int gch, .ref gD]))], [(gR, .inl (cy 3, gRn, .inr (.inr (.inr (.inr (yad gRd))))))], xg_rows gRd gRn (cy 1) gRk gRG] 0 0 [(0, .ref g)] 21 [.int r_3, .ref g] := by
    refine xr_iconst (n := 22) (v := 1) C dd_X9_check_0.2.2.2.2.2.2.2.2.2.2.2.1 rfl rfl ?_
    obtain ⟨x_4, hx_4, hR⟩ := yf_b hR
    refine xr_callV (n := 25) (As := [.int r_3, .int 1]) (rest := []) C (kX9_start_r l D cy (g := g) (gth := gth) (gw := gw) (gB := gB) (gK := gK) (gU := gU) (gS := gS) (gbe := gbe) (gwo := gwo) (gta := gta) (gn := gn) (glr := glr) (glc := glc) (gti := gti) (ggo := ggo) (gR := gR) (gch := gch) (gD := gD) (i1 := r_3) (i2 := 1) hx_4) mX9_start u_1297 u_1299 u_29 0 rfl rfl 3 [0] [1, 2] rfl (by decide +kernel) rfl rfl rfl rfl (Nat.le_of_ble_eq_true rfl) (Nat.le_of_ble_eq_true rfl) (Nat.le_of_ble_eq_true rfl) (Nat.le_of_ble_eq_true rfl) (Nat.le_of_ble_eq_true rfl) dd_X9_check_0.2.2.2.2.2.2.2.2.2.2.2.2.1 rfl (fun v_5 u_6 hp_7 => ?_)
    obtain ⟨rfl, rfl⟩ := hp_7
    refine xr_perm C 3 [0, 1, 2] [] [[(g, .inr (11, [.int x_4.2, .ref gw, .ref gB, .ref gK, .ref gU, .ref gS, .int gbe, .int gwo, .long gta, .ref gn, .int glr, .int glc, .int gti, .int ggo, .ref gR, .int gch, .ref gD]))], [(gR, .inl (cy 3, gRn, .inr (.inr (.inr (.inr (yad gRd))))))], xg_rows gRd gRn (cy 1) gRk gRG] rfl (by decide +kernel) rfl ?_
    refine xr_st (st' := [.int x_4.1]) rfl ?_
    refine xr_if_eq (tgt := 30) (n := 28) C dd_X9_check_0.2.2.2.2.2.2.2.2.2.2.2.2.2.1 rfl rfl (fun c_8 => ?_) (fun c_8 => ?_)
    · replace hR := yf_t c_8 hR
      refine xr_aload_n (n := 31) (j := 0) C dd_X9_check_1.1 rfl rfl ?_
      refine xr_iconst (n := 32) (v := 1) C dd_X9_check_1.2.1 rfl rfl ?_
      obtain ⟨x_9, hx_9, hR⟩ := yf_b hR
      refine xr_callVp (n := 35) (As := [.int 1]) (rest := []) C (kX9_severalOr_r l D cy (g := g) (gth := x_4.2) (gw := gw) (gB := gB) (gK := gK) (gU := gU) (gS := gS) (gbe := gbe) (gwo := gwo) (gta := gta) (gn := gn) (glr := glr) (glc := glc) (gti := gti) (ggo := ggo) (gR := gR) (gch := gch) (gD := gD) (gRd := gRd) (gRn := gRn) (gRk := gRk) (gRG := gRG) (i1 := 1) hx_9) mX9_severalOr u_1492 u_1494 u_46 0 rfl rfl 3 [0, 1, 2] [] rfl (by decide +kernel) rfl rfl rfl rfl (Nat.le_of_ble_eq_true rfl) (Nat.le_of_ble_eq_true rfl) (Nat.le_of_ble_eq_true rfl) (Nat.le_of_ble_eq_true rfl) (Nat.le_of_ble_eq_true rfl) dd_X9_check_1.2.2.1 rfl (fun _ _ hp => hp.2) (fun v_10 hp_12 => ?_)
      obtain ⟨rfl, -⟩ := hp_12
      refine xr_st (st' := [.int x_9]) rfl ?_
      refine xr_istore_n (n := 36) C [(1, .int x_9), (0, .ref g)] dd_X9_check_1.2.2.2.1 (by decide) rfl rfl ?_
      refine xr_aload_n (n := 37) (j := 1) C dd_X9_check_1.2.2.2.2.1 rfl rfl ?_
      refine xr_iconst (n := 38) (v := 0) C dd_X9_check_1.2.2.2.2.2.1 rfl rfl ?_
      obtain ⟨x_13, hx_13, hR⟩ := yf_b hR
      refine xr_callVp (n := 41) (As := [.int 0]) (rest := []) C (kX9_severalOr_r l D cy (g := g) (gth := x_4.2) (gw := gw) (gB := gB) (gK := gK) (gU := gU) (gS := gS) (gbe := gbe) (gwo := gwo) (gta := gta) (gn := gn) (glr := glr) (glc := glc) (gti := gti) (ggo := ggo) (gR := gR) (gch := gch) (gD := gD) (gRd := gRd) (gRn := gRn) (gRk := gRk) (gRG := gRG) (i1 := 0) hx_13) mX9_severalOr u_1492 u_1494 u_46 0 rfl rfl 3 [0, 1, 2] [] rfl (by decide +kernel) rfl rfl rfl rfl (Nat.le_of_ble_eq_true rfl) (Nat.le_of_ble_eq_true rfl) (Nat.le_of_ble_eq_true rfl) (Nat.le_of_ble_eq_true rfl) (Nat.le_of_ble_eq_true rfl) dd_X9_check_1.2.2.2.2.2.2.1 rfl (fun _ _ hp => hp.2) (fun v_14 hp_16 => ?_)
      obtain ⟨rfl, -⟩ := hp_16
      refine xr_st (st' := [.int x_13]) rfl ?_
      refine xr_istore_n (n := 42) C [(2, .int x_13), (1, .int x_9), (0, .ref g)] dd_X9_check_1.2.2.2.2.2.2.2.1 (by decide) rfl rfl ?_
      refine xr_iload_n (n := 43) (j := 1) C dd_X9_check_1.2.2.2.2.2.2.2.2.1 rfl rfl ?_
      refine xr_iconst (n := 44) (v := -1) C dd_X9_check_1.2.2.2.2.2.2.2.2.2.1 rfl rfl ?_
      refine xr_icmp_ne (tgt := 54) (n := 47) C dd_X9_check_1.2.2.2.2.2.2.2.2.2.2.1 rfl rfl (fun c_17 => ?_) (fun c_17 => ?_)
      · replace hR := yf_f c_17 hR
        refine xr_iload_n (n := 55) (j := 1) C dd_X9_check_2.1 rfl rfl ?_
        refine xr_if_lt (tgt := 62) (n := 58) C dd_X9_check_2.2.1 rfl rfl (fun c_18 => ?_) (fun c_18 => ?_)
        · replace hR := yf_t c_18 hR
          refine xr_iconst (n := 63) (v := 2) C dd_X9_check_2.2.2.2.2.1 rfl rfl ?_
          obtain rfl := Option.some.inj hR
          exact ret 2 ⟨rfl, rfl⟩ (Nat.le_of_ble_eq_true rfl) (Nat.le_of_ble_eq_true rfl) dd_X9_check_2.2.2.2.2.2.1
        · replace hR := yf_f c_18 hR
          refine xr_iload_n (n := 59) (j := 0) C dd_X9_check_2.2.2.1 rfl rfl ?_
          refine xr_if_ge (tgt := 64) (n := 62) C dd_X9_check_2.2.2.2.1 rfl rfl (fun c_19 => ?_) (fun c_19 => ?_)
          · replace hR := yf_t c_19 hR
            refine xr_iload_n (n := 65) (j := 0) C dd_X9_check_2.2.2.2.2.2.2.1 rfl rfl ?_
            refine xr_aload_n (n := 66) (j := 2) C dd_X9_check_2.2.2.2.2.2.2.2.1 rfl rfl ?_
            refine xr_get (n := 69) C 0 rfl rfl 14 (by decide) in_X9 u_1251 rfl (v := .ref gR) rfl dd_X9_check_2.2.2.2.2.2.2.2.2.1 rfl ?_
            refine xr_iconst (n := 70) (v := 0) C dd_X9_check_2.2.2.2.2.2.2.2.2.2.1 rfl rfl ?_
            obtain ⟨g_20, hR⟩ := yf_g hR
            refine xr_aald (n := 71) C 1 0 rfl 3 rfl rfl g_20 rfl dd_X9_check_2.2.2.2.2.2.2.2.2.2.2.1 rfl ?_
            refine xr_aleng (n := 72) C 2 1 rfl ((0 : Int32).toNatClampNeg) (ylt g_20) rfl dd_X9_check_2.2.2.2.2.2.2.2.2.2.2.2.1 rfl ?_
            refine xr_iconst (n := 73) (v := 1) C dd_X9_check_2.2.2.2.2.2.2.2.2.2.2.2.2.1 rfl rfl ?_
            refine xr_isub (n := 74) C dd_X9_check_2.2.2.2.2.2.2.2.2.2.2.2.2.2.1 rfl ?_
            obtain ⟨r_30, hE_30, hR⟩ := yf_b hR
            have J_30 : X p l e (yR 4 0 0) s m args below meth c D A H0 5 Q [[(g, .inr (11, [.int x_4.2, .ref gw, .ref gB, .ref gK, .ref gU, .ref gS, .int gbe, .int gwo, .long gta, .ref gn, .int glr, .int glc, .int gti, .int ggo, .ref gR, .int gch, .ref gD]))], [(gR, .inl (cy 3, gRn, .inr (.inr (.inr (.inr (yad gRd))))))], xg_rows gRd gRn (cy 1) gRk gRG] 0 0 [(0, .ref g), (1, .int x_9), (2, .int x_13)] 93 [.int r_30] := by
              refine xr_istore_n (n := 94) C [(3, .int r_30), (0, .ref g), (1, .int x_9), (2, .int x_13)] dd_X9_check_3.2.2.2.2.2.2.2.2.2.1 (by decide) rfl rfl ?_
              refine xr_iload_n (n := 95) (j := 2) C dd_X9_check_3.2.2.2.2.2.2.2.2.2.2.1 rfl rfl ?_
              refine xr_aload_n (n := 96) (j := 1) C dd_X9_check_3.2.2.2.2.2.2.2.2.2.2.2.1 rfl rfl ?_
              refine xr_get (n := 99) C 0 rfl rfl 14 (by decide) in_X9 u_1251 rfl (v := .ref gR) rfl dd_X9_check_3.2.2.2.2.2.2.2.2.2.2.2.2.1 rfl ?_
              refine xr_alen (n := 100) C 1 0 rfl 3 rfl rfl dd_X9_check_3.2.2.2.2.2.2.2.2.2.2.2.2.2.1 rfl ?_
              refine xr_iconst (n := 101) (v := 1) C dd_X9_check_3.2.2.2.2.2.2.2.2.2.2.2.2.2.2.1 rfl rfl ?_
              refine xr_isub (n := 102) C dd_X9_check_3.2.2.2.2.2.2.2.2.2.2.2.2.2.2.2.1 rfl ?_
              obtain ⟨r_40, hE_40, hR⟩ := yf_b hR
              have J_40 : X p l e (yR 4 0 0) s m args below meth c D A H0 5 Q [[(g, .inr (11, [.int x_4.2, .ref gw, .ref gB, .ref gK, .ref gU, .ref gS, .int gbe, .int gwo, .long gta, .ref gn, .int glr, .int glc, .int gti, .int ggo, .ref gR, .int gch, .ref gD]))], [(gR, .inl (cy 3, gRn, .inr (.inr (.inr (.inr (yad gRd))))))], xg_rows gRd gRn (cy 1) gRk gRG] 0 0 [(0, .ref g), (1, .int x_9), (2, .int x_13), (3, .int r_30)] 121 [.int r_40] := by
                refine xr_istore (n := 123) C [(4, .int r_40), (0, .ref g), (1, .int x_9), (2, .int x_13), (3, .int r_30)] dd_X9_check_4.2.2.2.2.2.2.2.2.2.2.2.1 (by decide) rfl rfl ?_
                refine xr_iload_n (n := 124) (j := 4) C dd_X9_check_4.2.2.2.2.2.2.2.2.2.2.2.2.1 rfl rfl ?_
                refine xr_iload (n := 126) (j := 0) C dd_X9_check_4.2.2.2.2.2.2.2.2.2.2.2.2.2.1 rfl rfl ?_
                refine xr_icmp_eq (tgt := 131) (n := 129) C dd_X9_check_4.2.2.2.2.2.2.2.2.2.2.2.2.2.2.1 rfl rfl (fun c_41 => ?_) (fun c_41 => ?_)
                · replace hR := yf_t c_41 hR
                  refine xr_aload_n (n := 132) (j := 1) C dd_X9_check_5.2.1 rfl rfl ?_
                  refine xr_get (n := 135) C 0 rfl rfl 14 (by decide) in_X9 u_1251 rfl (v := .ref gR) rfl dd_X9_check_5.2.2.1 rfl ?_
                  refine xr_iload_n (n := 136) (j := 2) C dd_X9_check_5.2.2.2.1 rfl rfl ?_
                  obtain ⟨g_42, hR⟩ := yf_g hR
                  refine xr_aald (n := 137) C 1 0 rfl 3 rfl rfl g_42 rfl dd_X9_check_5.2.2.2.2.1 rfl ?_
                  refine xr_iload_n (n := 138) (j := 3) C dd_X9_check_5.2.2.2.2.2.1 rfl rfl ?_
                  refine xr_dup2 (n := 139) C dd_X9_check_5.2.2.2.2.2.2.1 rfl rfl rfl ?_
                  obtain ⟨g_43, hR⟩ := yf_g hR
                  refine xr_ialdg (n := 140) C 2 rfl x_9.toNatClampNeg (ylt g_42) g_43 dd_X9_check_5.2.2.2.2.2.2.2.1 rfl ?_
                  refine xr_iload_n (n := 141) (j := 4) C dd_X9_check_5.2.2.2.2.2.2.2.2.1 rfl rfl ?_
                  refine xr_iadd (n := 142) C dd_X9_check_5.2.2.2.2.2.2.2.2.2.1 rfl ?_
                  obtain ⟨g_44, hR⟩ := yf_g hR
                  refine xr_iastg (n := 143) C 2 rfl x_9.toNatClampNeg (ylt g_42) g_44 [[(g, .inr (11, [.int x_4.2, .ref gw, .ref gB, .ref gK, .ref gU, .ref gS, .int gbe, .int gwo, .long gta, .ref gn, .int glr, .int glc, .int gti, .int ggo, .ref gR, .int gch, .ref gD]))], [(gR, .inl (cy 3, gRn, .inr (.inr (.inr (.inr (yad gRd))))))], xg_rows gRd gRn (cy 1) gRk (upg gRG x_9.toNatClampNeg x_13.toNatClampNeg ((gRG x_9.toNatClampNeg x_13.toNatClampNeg) + r_30))] rfl dd_X9_check_5.2.2.2.2.2.2.2.2.2.2.1 rfl ?_
                  refine xr_iconst (n := 144) (v := 1) C dd_X9_check_5.2.2.2.2.2.2.2.2.2.2.2.1 rfl rfl ?_
                  obtain rfl := Option.some.inj hR
                  exact ret 1 ⟨rfl, rfl⟩ (Nat.le_of_ble_eq_true rfl) (Nat.le_of_ble_eq_true rfl) dd_X9_check_5.2.2.2.2.2.2.2.2.2.2.2.2.1
                · replace hR := yf_f c_41 hR
                  refine xr_iconst (n := 130) (v := 2) C dd_X9_check_4.2.2.2.2.2.2.2.2.2.2.2.2.2.2.2.1 rfl rfl ?_
                  obtain rfl := Option.some.inj hR
                  exact ret 2 ⟨rfl, rfl⟩ (Nat.le_of_ble_eq_true rfl) (Nat.le_of_ble_eq_true rfl) dd_X9_check_5.1
              refine xr_icmp_ne (tgt := 115) (n := 105) C dd_X9_check_4.1 rfl rfl (fun c_45 => ?_) (fun c_45 => ?_)
              · replace hE_40 := yf_f c_45 hE_40
                refine xr_aload_n (n := 116) (j := 1) C dd_X9_check_4.2.2.2.2.2.2.2.1 rfl rfl ?_
                refine xr_iconst (n := 117) (v := 0) C dd_X9_check_4.2.2.2.2.2.2.2.2.1 rfl rfl ?_
                refine xr_iload_n (n := 118) (j := 3) C dd_X9_check_4.2.2.2.2.2.2.2.2.2.1 rfl rfl ?_
                obtain ⟨x_46, hx_46, hE_40⟩ := yf_b hE_40
                refine xr_callVp (n := 121) (As := [.int 0, .int x_13]) (rest := []) C (kX9_off_r l D cy (g := g) (gth := x_4.2) (gw := gw) (gB := gB) (gK := gK) (gU := gU) (gS := gS) (gbe := gbe) (gwo := gwo) (gta := gta) (gn := gn) (glr := glr) (glc := glc) (gti := gti) (ggo := ggo) (gR := gR) (gch := gch) (gD := gD) (gRd := gRd) (gRn := gRn) (gRk := gRk) (gRG := gRG) (i1 := 0) (i2 := x_13) hx_46) mX9_off u_1496 u_1498 u_47 0 rfl rfl 3 [0, 1, 2] [] rfl (by decide +kernel) rfl rfl rfl rfl (Nat.le_of_ble_eq_true rfl) (Nat.le_of_ble_eq_true rfl) (Nat.le_of_ble_eq_true rfl) (Nat.le_of_ble_eq_true rfl) (Nat.le_of_ble_eq_true rfl) dd_X9_check_4.2.2.2.2.2.2.2.2.2.2.1 rfl (fun _ _ hp => hp.2) (fun v_47 hp_49 => ?_)
                obtain ⟨rfl, -⟩ := hp_49
                refine xr_st (st' := [.int x_46]) rfl ?_
                refine xr_lv (lv' := [(0, .ref g), (1, .int x_9), (2, .int x_13), (3, .int r_30)]) [1, 2, 3, 0] rfl ?_
                have e_50 := Option.some.inj hE_40
                subst e_50
                exact J_40
              · replace hE_40 := yf_t c_45 hE_40
                refine xr_aload_n (n := 106) (j := 1) C dd_X9_check_4.2.1 rfl rfl ?_
                refine xr_iconst (n := 107) (v := 0) C dd_X9_check_4.2.2.1 rfl rfl ?_
                refine xr_iload_n (n := 108) (j := 3) C dd_X9_check_4.2.2.2.1 rfl rfl ?_
                obtain ⟨x_51, hx_51, hE_40⟩ := yf_b hE_40
                refine xr_callVp (n := 111) (As := [.int 0, .int x_13]) (rest := []) C (kX9_off_r l D cy (g := g) (gth := x_4.2) (gw := gw) (gB := gB) (gK := gK) (gU := gU) (gS := gS) (gbe := gbe) (gwo := gwo) (gta := gta) (gn := gn) (glr := glr) (glc := glc) (gti := gti) (ggo := ggo) (gR := gR) (gch := gch) (gD := gD) (gRd := gRd) (gRn := gRn) (gRk := gRk) (gRG := gRG) (i1 := 0) (i2 := x_13) hx_51) mX9_off u_1496 u_1498 u_47 0 rfl rfl 3 [0, 1, 2] [] rfl (by decide +kernel) rfl rfl rfl rfl (Nat.le_of_ble_eq_true rfl) (Nat.le_of_ble_eq_true rfl) (Nat.le_of_ble_eq_true rfl) (Nat.le_of_ble_eq_true rfl) (Nat.le_of_ble_eq_true rfl) dd_X9_check_4.2.2.2.2.1 rfl (fun _ _ hp => hp.2) (fun v_52 hp_54 => ?_)
                obtain ⟨rfl, -⟩ := hp_54
                refine xr_st (st' := [.int x_51]) rfl ?_
                refine xr_ineg (n := 112) C dd_X9_check_4.2.2.2.2.2.1 rfl ?_
                refine xr_goto (tgt := 121) C dd_X9_check_4.2.2.2.2.2.2.1 rfl ?_
                refine xr_lv (lv' := [(0, .ref g), (1, .int x_9), (2, .int x_13), (3, .int r_30)]) [1, 2, 3, 0] rfl ?_
                have e_55 := Option.some.inj hE_40
                subst e_55
                exact J_40
            refine xr_icmp_ne (tgt := 87) (n := 77) C dd_X9_check_2.2.2.2.2.2.2.2.2.2.2.2.2.2.2.1 rfl rfl (fun c_56 => ?_) (fun c_56 => ?_)
            · replace hE_30 := yf_f c_56 hE_30
              refine xr_aload_n (n := 88) (j := 2) C dd_X9_check_3.2.2.2.2.2.1 rfl rfl ?_
              refine xr_iconst (n := 89) (v := 1) C dd_X9_check_3.2.2.2.2.2.2.1 rfl rfl ?_
              refine xr_iload_n (n := 90) (j := 1) C dd_X9_check_3.2.2.2.2.2.2.2.1 rfl rfl ?_
              obtain ⟨x_57, hx_57, hE_30⟩ := yf_b hE_30
              refine xr_callVp (n := 93) (As := [.int 1, .int x_9]) (rest := []) C (kX9_off_r l D cy (g := g) (gth := x_4.2) (gw := gw) (gB := gB) (gK := gK) (gU := gU) (gS := gS) (gbe := gbe) (gwo := gwo) (gta := gta) (gn := gn) (glr := glr) (glc := glc) (gti := gti) (ggo := ggo) (gR := gR) (gch := gch) (gD := gD) (gRd := gRd) (gRn := gRn) (gRk := gRk) (gRG := gRG) (i1 := 1) (i2 := x_9) hx_57) mX9_off u_1496 u_1498 u_47 0 rfl rfl 3 [0, 1, 2] [] rfl (by decide +kernel) rfl rfl rfl rfl (Nat.le_of_ble_eq_true rfl) (Nat.le_of_ble_eq_true rfl) (Nat.le_of_ble_eq_true rfl) (Nat.le_of_ble_eq_true rfl) (Nat.le_of_ble_eq_true rfl) dd_X9_check_3.2.2.2.2.2.2.2.2.1 rfl (fun _ _ hp => hp.2) (fun v_58 hp_60 => ?_)
              obtain ⟨rfl, -⟩ := hp_60
              refine xr_st (st' := [.int x_57]) rfl ?_
              refine xr_lv (lv' := [(0, .ref g), (1, .int x_9), (2, .int x_13)]) [2, 1, 0] rfl ?_
              have e_61 := Option.some.inj hE_30
              subst e_61
              exact J_30
            · replace hE_30 := yf_t c_56 hE_30
              refine xr_aload_n (n := 78) (j := 2) C dd_X9_check_2.2.2.2.2.2.2.2.2.2.2.2.2.2.2.2.1 rfl rfl ?_
              refine xr_iconst (n := 79) (v := 1) C dd_X9_check_3.1 rfl rfl ?_
              refine xr_iload_n (n := 80) (j := 1) C dd_X9_check_3.2.1 rfl rfl ?_
              obtain ⟨x_62, hx_62, hE_30⟩ := yf_b hE_30
              refine xr_callVp (n := 83) (As := [.int 1, .int x_9]) (rest := []) C (kX9_off_r l D cy (g := g) (gth := x_4.2) (gw := gw) (gB := gB) (gK := gK) (gU := gU) (gS := gS) (gbe := gbe) (gwo := gwo) (gta := gta) (gn := gn) (glr := glr) (glc := glc) (gti := gti) (ggo := ggo) (gR := gR) (gch := gch) (gD := gD) (gRd := gRd) (gRn := gRn) (gRk := gRk) (gRG := gRG) (i1 := 1) (i2 := x_9) hx_62) mX9_off u_1496 u_1498 u_47 0 rfl rfl 3 [0, 1, 2] [] rfl (by decide +kernel) rfl rfl rfl rfl (Nat.le_of_ble_eq_true rfl) (Nat.le_of_ble_eq_true rfl) (Nat.le_of_ble_eq_true rfl) (Nat.le_of_ble_eq_true rfl) (Nat.le_of_ble_eq_true rfl) dd_X9_check_3.2.2.1 rfl (fun _ _ hp => hp.2) (fun v_63 hp_65 => ?_)
              obtain ⟨rfl, -⟩ := hp_65
              refine xr_st (st' := [.int x_62]) rfl ?_
              refine xr_ineg (n := 84) C dd_X9_check_3.2.2.2.1 rfl ?_
              refine xr_goto (tgt := 93) C dd_X9_check_3.2.2.2.2.1 rfl ?_
              refine xr_lv (lv' := [(0, .ref g), (1, .int x_9), (2, .int x_13)]) [2, 1, 0] rfl ?_
              have e_66 := Option.some.inj hE_30
              subst e_66
              exact J_30
          · replace hR := yf_f c_19 hR
            refine xr_iconst (n := 63) (v := 2) C dd_X9_check_2.2.2.2.2.1 rfl rfl ?_
            obtain rfl := Option.some.inj hR
            exact ret 2 ⟨rfl, rfl⟩ (Nat.le_of_ble_eq_true rfl) (Nat.le_of_ble_eq_true rfl) dd_X9_check_2.2.2.2.2.2.1
      · replace hR := yf_t c_17 hR
        refine xr_iload_n (n := 48) (j := 0) C dd_X9_check_1.2.2.2.2.2.2.2.2.2.2.2.1 rfl rfl ?_
        refine xr_iconst (n := 49) (v := -1) C dd_X9_check_1.2.2.2.2.2.2.2.2.2.2.2.2.1 rfl rfl ?_
        refine xr_icmp_ne (tgt := 54) (n := 52) C dd_X9_check_1.2.2.2.2.2.2.2.2.2.2.2.2.2.1 rfl rfl (fun c_67 => ?_) (fun c_67 => ?_)
        · replace hR := yf_f c_67 hR
          refine xr_iload_n (n := 55) (j := 1) C dd_X9_check_2.1 rfl rfl ?_
          refine xr_if_lt (tgt := 62) (n := 58) C dd_X9_check_2.2.1 rfl rfl (fun c_68 => ?_) (fun c_68 => ?_)
          · replace hR := yf_t c_68 hR
            refine xr_iconst (n := 63) (v := 2) C dd_X9_check_2.2.2.2.2.1 rfl rfl ?_
            obtain rfl := Option.some.inj hR
            exact ret 2 ⟨rfl, rfl⟩ (Nat.le_of_ble_eq_true rfl) (Nat.le_of_ble_eq_true rfl) dd_X9_check_2.2.2.2.2.2.1
          · replace hR := yf_f c_68 hR
            refine xr_iload_n (n := 59) (j := 0) C dd_X9_check_2.2.2.1 rfl rfl ?_
            refine xr_if_ge (tgt := 64) (n := 62) C dd_X9_check_2.2.2.2.1 rfl rfl (fun c_69 => ?_) (fun c_69 => ?_)
            · replace hR := yf_t c_69 hR
              refine xr_iload_n (n := 65) (j := 0) C dd_X9_check_2.2.2.2.2.2.2.1 rfl rfl ?_
              refine xr_aload_n (n := 66) (j := 2) C dd_X9_check_2.2.2.2.2.2.2.2.1 rfl rfl ?_
              refine xr_get (n := 69) C 0 rfl rfl 14 (by decide) in_X9 u_1251 rfl (v := .ref gR) rfl dd_X9_check_2.2.2.2.2.2.2.2.2.1 rfl ?_
              refine xr_iconst (n := 70) (v := 0) C dd_X9_check_2.2.2.2.2.2.2.2.2.2.1 rfl rfl ?_
              obtain ⟨g_70, hR⟩ := yf_g hR
              refine xr_aald (n := 71) C 1 0 rfl 3 rfl rfl g_70 rfl dd_X9_check_2.2.2.2.2.2.2.2.2.2.2.1 rfl ?_
              refine xr_aleng (n := 72) C 2 1 rfl ((0 : Int32).toNatClampNeg) (ylt g_70) rfl dd_X9_check_2.2.2.2.2.2.2.2.2.2.2.2.1 rfl ?_
              refine xr_iconst (n := 73) (v := 1) C dd_X9_check_2.2.2.2.2.2.2.2.2.2.2.2.2.1 rfl rfl ?_
              refine xr_isub (n := 74) C dd_X9_check_2.2.2.2.2.2.2.2.2.2.2.2.2.2.1 rfl ?_
              obtain ⟨r_80, hE_80, hR⟩ := yf_b hR
              have J_80 : X p l e (yR 4 0 0) s m args below meth c D A H0 5 Q [[(g, .inr (11, [.int x_4.2, .ref gw, .ref gB, .ref gK, .ref gU, .ref gS, .int gbe, .int gwo, .long gta, .ref gn, .int glr, .int glc, .int gti, .int ggo, .ref gR, .int gch, .ref gD]))], [(gR, .inl (cy 3, gRn, .inr (.inr (.inr (.inr (yad gRd))))))], xg_rows gRd gRn (cy 1) gRk gRG] 0 0 [(0, .ref g), (1, .int x_9), (2, .int x_13)] 93 [.int r_80] := by
                refine xr_istore_n (n := 94) C [(3, .int r_80), (0, .ref g), (1, .int x_9), (2, .int x_13)] dd_X9_check_3.2.2.2.2.2.2.2.2.2.1 (by decide) rfl rfl ?_
                refine xr_iload_n (n := 95) (j := 2) C dd_X9_check_3.2.2.2.2.2.2.2.2.2.2.1 rfl rfl ?_
                refine xr_aload_n (n := 96) (j := 1) C dd_X9_check_3.2.2.2.2.2.2.2.2.2.2.2.1 rfl rfl ?_
                refine xr_get (n := 99) C 0 rfl rfl 14 (by decide) in_X9 u_1251 rfl (v := .ref gR) rfl dd_X9_check_3.2.2.2.2.2.2.2.2.2.2.2.2.1 rfl ?_
                refine xr_alen (n := 100) C 1 0 rfl 3 rfl rfl dd_X9_check_3.2.2.2.2.2.2.2.2.2.2.2.2.2.1 rfl ?_
                refine xr_iconst (n := 101) (v := 1) C dd_X9_check_3.2.2.2.2.2.2.2.2.2.2.2.2.2.2.1 rfl rfl ?_
                refine xr_isub (n := 102) C dd_X9_check_3.2.2.2.2.2.2.2.2.2.2.2.2.2.2.2.1 rfl ?_
                obtain ⟨r_90, hE_90, hR⟩ := yf_b hR
                have J_90 : X p l e (yR 4 0 0) s m args below meth c D A H0 5 Q [[(g, .inr (11, [.int x_4.2, .ref gw, .ref gB, .ref gK, .ref gU, .ref gS, .int gbe, .int gwo, .long gta, .ref gn, .int glr, .int glc, .int gti, .int ggo, .ref gR, .int gch, .ref gD]))], [(gR, .inl (cy 3, gRn, .inr (.inr (.inr (.inr (yad gRd))))))], xg_rows gRd gRn (cy 1) gRk gRG] 0 0 [(0, .ref g), (1, .int x_9), (2, .int x_13), (3, .int r_80)] 121 [.int r_90] := by
                  refine xr_istore (n := 123) C [(4, .int r_90), (0, .ref g), (1, .int x_9), (2, .int x_13), (3, .int r_80)] dd_X9_check_4.2.2.2.2.2.2.2.2.2.2.2.1 (by decide) rfl rfl ?_
                  refine xr_iload_n (n := 124) (j := 4) C dd_X9_check_4.2.2.2.2.2.2.2.2.2.2.2.2.1 rfl rfl ?_
                  refine xr_iload (n := 126) (j := 0) C dd_X9_check_4.2.2.2.2.2.2.2.2.2.2.2.2.2.1 rfl rfl ?_
                  refine xr_icmp_eq (tgt := 131) (n := 129) C dd_X9_check_4.2.2.2.2.2.2.2.2.2.2.2.2.2.2.1 rfl rfl (fun c_91 => ?_) (fun c_91 => ?_)
                  · replace hR := yf_t c_91 hR
                    refine xr_aload_n (n := 132) (j := 1) C dd_X9_check_5.2.1 rfl rfl ?_
                    refine xr_get (n := 135) C 0 rfl rfl 14 (by decide) in_X9 u_1251 rfl (v := .ref gR) rfl dd_X9_check_5.2.2.1 rfl ?_
                    refine xr_iload_n (n := 136) (j := 2) C dd_X9_check_5.2.2.2.1 rfl rfl ?_
                    obtain ⟨g_92, hR⟩ := yf_g hR
                    refine xr_aald (n := 137) C 1 0 rfl 3 rfl rfl g_92 rfl dd_X9_check_5.2.2.2.2.1 rfl ?_
                    refine xr_iload_n (n := 138) (j := 3) C dd_X9_check_5.2.2.2.2.2.1 rfl rfl ?_
                    refine xr_dup2 (n := 139) C dd_X9_check_5.2.2.2.2.2.2.1 rfl rfl rfl ?_
                    obtain ⟨g_93, hR⟩ := yf_g hR
                    refine xr_ialdg (n := 140) C 2 rfl x_9.toNatClampNeg (ylt g_92) g_93 dd_X9_check_5.2.2.2.2.2.2.2.1 rfl ?_
                    refine xr_iload_n (n := 141) (j := 4) C dd_X9_check_5.2.2.2.2.2.2.2.2.1 rfl rfl ?_
                    refine xr_iadd (n := 142) C dd_X9_check_5.2.2.2.2.2.2.2.2.2.1 rfl ?_
                    obtain ⟨g_94, hR⟩ := yf_g hR
                    refine xr_iastg (n := 143) C 2 rfl x_9.toNatClampNeg (ylt g_92) g_94 [[(g, .inr (11, [.int x_4.2, .ref gw, .ref gB, .ref gK, .ref gU, .ref gS, .int gbe, .int gwo, .long gta, .ref gn, .int glr, .int glc, .int gti, .int ggo, .ref gR, .int gch, .ref gD]))], [(gR, .inl (cy 3, gRn, .inr (.inr (.inr (.inr (yad gRd))))))], xg_rows gRd gRn (cy 1) gRk (upg gRG x_9.toNatClampNeg x_13.toNatClampNeg ((gRG x_9.toNatClampNeg x_13.toNatClampNeg) + r_80))] rfl dd_X9_check_5.2.2.2.2.2.2.2.2.2.2.1 rfl ?_
                    refine xr_iconst (n := 144) (v := 1) C dd_X9_check_5.2.2.2.2.2.2.2.2.2.2.2.1 rfl rfl ?_
                    obtain rfl := Option.some.inj hR
                    exact ret 1 ⟨rfl, rfl⟩ (Nat.le_of_ble_eq_true rfl) (Nat.le_of_ble_eq_true rfl) dd_X9_check_5.2.2.2.2.2.2.2.2.2.2.2.2.1
                  · replace hR := yf_f c_91 hR
                    refine xr_iconst (n := 130) (v := 2) C dd_X9_check_4.2.2.2.2.2.2.2.2.2.2.2.2.2.2.2.1 rfl rfl ?_
                    obtain rfl := Option.some.inj hR
                    exact ret 2 ⟨rfl, rfl⟩ (Nat.le_of_ble_eq_true rfl) (Nat.le_of_ble_eq_true rfl) dd_X9_check_5.1
                refine xr_icmp_ne (tgt := 115) (n := 105) C dd_X9_check_4.1 rfl rfl (fun c_95 => ?_) (fun c_95 => ?_)
                · replace hE_90 := yf_f c_95 hE_90
                  refine xr_aload_n (n := 116) (j := 1) C dd_X9_check_4.2.2.2.2.2.2.2.1 rfl rfl ?_
                  refine xr_iconst (n := 117) (v := 0) C dd_X9_check_4.2.2.2.2.2.2.2.2.1 rfl rfl ?_
                  refine xr_iload_n (n := 118) (j := 3) C dd_X9_check_4.2.2.2.2.2.2.2.2.2.1 rfl rfl ?_
                  obtain ⟨x_96, hx_96, hE_90⟩ := yf_b hE_90
                  refine xr_callVp (n := 121) (As := [.int 0, .int x_13]) (rest := []) C (kX9_off_r l D cy (g := g) (gth := x_4.2) (gw := gw) (gB := gB) (gK := gK) (gU := gU) (gS := gS) (gbe := gbe) (gwo := gwo) (gta := gta) (gn := gn) (glr := glr) (glc := glc) (gti := gti) (ggo := ggo) (gR := gR) (gch := gch) (gD := gD) (gRd := gRd) (gRn := gRn) (gRk := gRk) (gRG := gRG) (i1 := 0) (i2 := x_13) hx_96) mX9_off u_1496 u_1498 u_47 0 rfl rfl 3 [0, 1, 2] [] rfl (by decide +kernel) rfl rfl rfl rfl (Nat.le_of_ble_eq_true rfl) (Nat.le_of_ble_eq_true rfl) (Nat.le_of_ble_eq_true rfl) (Nat.le_of_ble_eq_true rfl) (Nat.le_of_ble_eq_true rfl) dd_X9_check_4.2.2.2.2.2.2.2.2.2.2.1 rfl (fun _ _ hp => hp.2) (fun v_97 hp_99 => ?_)
                  obtain ⟨rfl, -⟩ := hp_99
                  refine xr_st (st' := [.int x_96]) rfl ?_
                  refine xr_lv (lv' := [(0, .ref g), (1, .int x_9), (2, .int x_13), (3, .int r_80)]) [1, 2, 3, 0] rfl ?_
                  have e_100 := Option.some.inj hE_90
                  subst e_100
                  exact J_90
                · replace hE_90 := yf_t c_95 hE_90
                  refine xr_aload_n (n := 106) (j := 1) C dd_X9_check_4.2.1 rfl rfl ?_
                  refine xr_iconst (n := 107) (v := 0) C dd_X9_check_4.2.2.1 rfl rfl ?_
                  refine xr_iload_n (n := 108) (j := 3) C dd_X9_check_4.2.2.2.1 rfl rfl ?_
                  obtain ⟨x_101, hx_101, hE_90⟩ := yf_b hE_90
                  refine xr_callVp (n := 111) (As := [.int 0, .int x_13]) (rest := []) C (kX9_off_r l D cy (g := g) (gth := x_4.2) (gw := gw) (gB := gB) (gK := gK) (gU := gU) (gS := gS) (gbe := gbe) (gwo := gwo) (gta := gta) (gn := gn) (glr := glr) (glc := glc) (gti := gti) (ggo := ggo) (gR := gR) (gch := gch) (gD := gD) (gRd := gRd) (gRn := gRn) (gRk := gRk) (gRG := gRG) (i1 := 0) (i2 := x_13) hx_101) mX9_off u_1496 u_1498 u_47 0 rfl rfl 3 [0, 1, 2] [] rfl (by decide +kernel) rfl rfl rfl rfl (Nat.le_of_ble_eq_true rfl) (Nat.le_of_ble_eq_true rfl) (Nat.le_of_ble_eq_true rfl) (Nat.le_of_ble_eq_true rfl) (Nat.le_of_ble_eq_true rfl) dd_X9_check_4.2.2.2.2.1 rfl (fun _ _ hp => hp.2) (fun v_102 hp_104 => ?_)
                  obtain ⟨rfl, -⟩ := hp_104
                  refine xr_st (st' := [.int x_101]) rfl ?_
                  refine xr_ineg (n := 112) C dd_X9_check_4.2.2.2.2.2.1 rfl ?_
                  refine xr_goto (tgt := 121) C dd_X9_check_4.2.2.2.2.2.2.1 rfl ?_
                  refine xr_lv (lv' := [(0, .ref g), (1, .int x_9), (2, .int x_13), (3, .int r_80)]) [1, 2, 3, 0] rfl ?_
                  have e_105 := Option.some.inj hE_90
                  subst e_105
                  exact J_90
              refine xr_icmp_ne (tgt := 87) (n := 77) C dd_X9_check_2.2.2.2.2.2.2.2.2.2.2.2.2.2.2.1 rfl rfl (fun c_106 => ?_) (fun c_106 => ?_)
              · replace hE_80 := yf_f c_106 hE_80
                refine xr_aload_n (n := 88) (j := 2) C dd_X9_check_3.2.2.2.2.2.1 rfl rfl ?_
                refine xr_iconst (n := 89) (v := 1) C dd_X9_check_3.2.2.2.2.2.2.1 rfl rfl ?_
                refine xr_iload_n (n := 90) (j := 1) C dd_X9_check_3.2.2.2.2.2.2.2.1 rfl rfl ?_
                obtain ⟨x_107, hx_107, hE_80⟩ := yf_b hE_80
                refine xr_callVp (n := 93) (As := [.int 1, .int x_9]) (rest := []) C (kX9_off_r l D cy (g := g) (gth := x_4.2) (gw := gw) (gB := gB) (gK := gK) (gU := gU) (gS := gS) (gbe := gbe) (gwo := gwo) (gta := gta) (gn := gn) (glr := glr) (glc := glc) (gti := gti) (ggo := ggo) (gR := gR) (gch := gch) (gD := gD) (gRd := gRd) (gRn := gRn) (gRk := gRk) (gRG := gRG) (i1 := 1) (i2 := x_9) hx_107) mX9_off u_1496 u_1498 u_47 0 rfl rfl 3 [0, 1, 2] [] rfl (by decide +kernel) rfl rfl rfl rfl (Nat.le_of_ble_eq_true rfl) (Nat.le_of_ble_eq_true rfl) (Nat.le_of_ble_eq_true rfl) (Nat.le_of_ble_eq_true rfl) (Nat.le_of_ble_eq_true rfl) dd_X9_check_3.2.2.2.2.2.2.2.2.1 rfl (fun _ _ hp => hp.2) (fun v_108 hp_110 => ?_)
                obtain ⟨rfl, -⟩ := hp_110
                refine xr_st (st' := [.int x_107]) rfl ?_
                refine xr_lv (lv' := [(0, .ref g), (1, .int x_9), (2, .int x_13)]) [2, 1, 0] rfl ?_
                have e_111 := Option.some.inj hE_80
                subst e_111
                exact J_80
              · replace hE_80 := yf_t c_106 hE_80
                refine xr_aload_n (n := 78) (j := 2) C dd_X9_check_2.2.2.2.2.2.2.2.2.2.2.2.2.2.2.2.1 rfl rfl ?_
                refine xr_iconst (n := 79) (v := 1) C dd_X9_check_3.1 rfl rfl ?_
                refine xr_iload_n (n := 80) (j := 1) C dd_X9_check_3.2.1 rfl rfl ?_
                obtain ⟨x_112, hx_112, hE_80⟩ := yf_b hE_80
                refine xr_callVp (n := 83) (As := [.int 1, .int x_9]) (rest := []) C (kX9_off_r l D cy (g := g) (gth := x_4.2) (gw := gw) (gB := gB) (gK := gK) (gU := gU) (gS := gS) (gbe := gbe) (gwo := gwo) (gta := gta) (gn := gn) (glr := glr) (glc := glc) (gti := gti) (ggo := ggo) (gR := gR) (gch := gch) (gD := gD) (gRd := gRd) (gRn := gRn) (gRk := gRk) (gRG := gRG) (i1 := 1) (i2 := x_9) hx_112) mX9_off u_1496 u_1498 u_47 0 rfl rfl 3 [0, 1, 2] [] rfl (by decide +kernel) rfl rfl rfl rfl (Nat.le_of_ble_eq_true rfl) (Nat.le_of_ble_eq_true rfl) (Nat.le_of_ble_eq_true rfl) (Nat.le_of_ble_eq_true rfl) (Nat.le_of_ble_eq_true rfl) dd_X9_check_3.2.2.1 rfl (fun _ _ hp => hp.2) (fun v_113 hp_115 => ?_)
                obtain ⟨rfl, -⟩ := hp_115
                refine xr_st (st' := [.int x_112]) rfl ?_
                refine xr_ineg (n := 84) C dd_X9_check_3.2.2.2.1 rfl ?_
                refine xr_goto (tgt := 93) C dd_X9_check_3.2.2.2.2.1 rfl ?_
                refine xr_lv (lv' := [(0, .ref g), (1, .int x_9), (2, .int x_13)]) [2, 1, 0] rfl ?_
                have e_116 := Option.some.inj hE_80
                subst e_116
                exact J_80
            · replace hR := yf_f c_69 hR
              refine xr_iconst (n := 63) (v := 2) C dd_X9_check_2.2.2.2.2.1 rfl rfl ?_
              obtain rfl := Option.some.inj hR
              exact ret 2 ⟨rfl, rfl⟩ (Nat.le_of_ble_eq_true rfl) (Nat.le_of_ble_eq_true rfl) dd_X9_check_2.2.2.2.2.2.1
        · replace hR := yf_t c_67 hR
          refine xr_iconst (n := 53) (v := 0) C dd_X9_check_1.2.2.2.2.2.2.2.2.2.2.2.2.2.2.1 rfl rfl ?_
          obtain rfl := Option.some.inj hR
          exact ret 0 ⟨rfl, rfl⟩ (Nat.le_of_ble_eq_true rfl) (Nat.le_of_ble_eq_true rfl) dd_X9_check_1.2.2.2.2.2.2.2.2.2.2.2.2.2.2.2.1
    · replace hR := yf_f c_8 hR
      refine xr_iconst (n := 29) (v := 0) C dd_X9_check_0.2.2.2.2.2.2.2.2.2.2.2.2.2.2.1 rfl rfl ?_
      obtain rfl := Option.some.inj hR
      exact ret 0 ⟨rfl, rfl⟩ (Nat.le_of_ble_eq_true rfl) (Nat.le_of_ble_eq_true rfl) dd_X9_check_0.2.2.2.2.2.2.2.2.2.2.2.2.2.2.2.1
  refine xr_if_eq (tgt := 16) (n := 9) C dd_X9_check_0.2.2.2.2.1 rfl rfl (fun c_117 => ?_) (fun c_117 => ?_)
  · replace hE_3 := yf_t c_117 hE_3
    refine xr_iconst (n := 17) (v := 1) C dd_X9_check_0.2.2.2.2.2.2.2.2.1 rfl rfl ?_
    refine xr_goto (tgt := 21) C dd_X9_check_0.2.2.2.2.2.2.2.2.2.1 rfl ?_
    have e_118 := Option.some.inj hE_3
    subst e_118
    exact J_3
  · replace hE_3 := yf_f c_117 hE_3
    refine xr_aload_n (n := 10) (j := 0) C dd_X9_check_0.2.2.2.2.2.1 rfl rfl ?_
    refine xr_get (n := 13) C 0 rfl rfl 15 (by decide) in_X9 u_1252 rfl (v := .int gch) rfl dd_X9_check_0.2.2.2.2.2.2.1 rfl ?_
    refine xr_if_ne (tgt := 20) (n := 16) C dd_X9_check_0.2.2.2.2.2.2.2.1 rfl rfl (fun c_119 => ?_) (fun c_119 => ?_)
    · replace hE_3 := yf_f c_119 hE_3
      refine xr_iconst (n := 21) (v := 0) C dd_X9_check_0.2.2.2.2.2.2.2.2.2.2.1 rfl rfl ?_
      have e_120 := Option.some.inj hE_3
      subst e_120
      exact J_3
    · replace hE_3 := yf_t c_119 hE_3
      refine xr_iconst (n := 17) (v := 1) C dd_X9_check_0.2.2.2.2.2.2.2.2.1 rfl rfl ?_
      refine xr_goto (tgt := 21) C dd_X9_check_0.2.2.2.2.2.2.2.2.2.1 rfl ?_
      have e_121 := Option.some.inj hE_3
      subst e_121
      exact J_3
theorem dX9_meshTold_1 : decode cX9_meshTold 1 = .ok (.tableswitch 205 0 14 #[75, 83, 91, 99, 107, 118, 126, 134, 143, 152, 157, 162, 178, 183, 199], 75) := by decide +kernel
theorem dd_X9_meshTold_0 : dk_R cX9_meshTold [(0, .iload_n 1, 1), (76, .aload_n 0, 1), (77, .getfield 16, 3), (80, .getfield 48, 3), (83, .ireturn, 1), (84, .aload_n 0, 1), (85, .getfield 16, 3), (88, .getfield 52, 3), (91, .ireturn, 1), (92, .aload_n 0, 1), (93, .getfield 16, 3), (96, .getfield 55, 3), (99, .ireturn, 1), (100, .aload_n 0, 1), (101, .getfield 16, 3), (104, .getfield 86, 3)] := dk_use _ _ (by decide +kernel)
theorem dd_X9_meshTold_1 : dk_R cX9_meshTold [(107, .ireturn, 1), (108, .aload_n 0, 1), (109, .getfield 16, 3), (112, .getfield 89, 3), (115, .invokestatic 71, 3), (118, .ireturn, 1), (119, .aload_n 0, 1), (120, .getfield 16, 3), (123, .invokevirtual 120, 3), (126, .ireturn, 1), (127, .aload_n 0, 1), (128, .getfield 16, 3), (131, .invokevirtual 193, 3), (134, .ireturn, 1), (135, .aload_n 0, 1), (136, .aload_n 0, 1)] := dk_use _ _ (by decide +kernel)
theorem dd_X9_meshTold_2 : dk_R cX9_meshTold [(137, .getfield 24, 3), (140, .invokevirtual 133, 3), (143, .ireturn, 1), (144, .aload_n 0, 1), (145, .aload_n 0, 1), (146, .getfield 27, 3), (149, .invokevirtual 133, 3), (152, .ireturn, 1), (153, .aload_n 0, 1), (154, .getfield 213, 3), (157, .ireturn, 1), (158, .aload_n 0, 1), (159, .getfield 184, 3), (162, .ireturn, 1), (163, .aload_n 0, 1), (164, .getfield 137, 3)] := dk_use _ _ (by decide +kernel)
theorem dd_X9_meshTold_3 : dk_R cX9_meshTold [(167, .ifnull 7, 3), (170, .iconst 1, 1), (171, .goto 4, 3), (174, .iconst 0, 1), (175, .invokestatic 71, 3), (178, .ireturn, 1), (179, .aload_n 0, 1), (180, .invokevirtual 187, 3), (183, .ireturn, 1), (184, .aload_n 0, 1), (185, .getfield 137, 3), (188, .ifnonnull 7, 3), (191, .iconst (-1), 1), (192, .goto 7, 3), (195, .aload_n 0, 1), (196, .getfield 155, 3)] := dk_use _ _ (by decide +kernel)
theorem dd_X9_meshTold_4 : dk_R cX9_meshTold [(199, .ireturn, 1), (200, .aload_n 0, 1), (201, .getfield 38, 3), (204, .arraylength, 1), (205, .ireturn, 1), (206, .aload_n 0, 1), (207, .getfield 38, 3), (210, .arraylength, 1), (211, .ifCond .ne 7, 3), (214, .iconst 0, 1), (215, .goto 10, 3), (218, .aload_n 0, 1), (219, .getfield 38, 3), (222, .iconst 0, 1), (223, .aaload, 1), (224, .arraylength, 1)] := dk_use _ _ (by decide +kernel)
theorem dd_X9_meshTold_5 : dk_R cX9_meshTold [(225, .ireturn, 1)] := dk_use _ _ (by decide +kernel)
def fX9_meshTold_i (gbe : Int32) (gwo : Int32) (gwr : Int32) (gwk : Int32) (gwc : Int32) (gwg : Int32) (gws : Int32) (gwan : Nat) (gwak : Nat) (gwaG : Nat → Nat → Int32) (gwbn : Nat) (gwbk : Nat) (gwbG : Nat → Nat → Int32) (gBG : Nat → Nat → Int32) (gKG : Nat → Nat → Int32) (gRn : Nat) (gRk : Nat) (i1 : Int32) : Option (Int32) := (if i1 = 0 then some gwr else (if i1 = 1 then some gwk else (if i1 = 2 then some gwc else (if i1 = 3 then some gwg else (if i1 = 4 then ((fX9_one gws).bind fun x_6 => some x_6) else (if i1 = 5 then ((fX8_steps gwk gwg gwan gwak gwaG gwbn gwbk gwbG).bind fun x_11 => some x_11) else (if i1 = 6 then ((fX8_skipped gwk gwg gwan gwak gwaG gwbn gwbk gwbG).bind fun x_16 => some x_16) else (if i1 = 7 then ((fX9_count_i 5 5 gBG).bind fun x_21 => some x_21) else (if i1 = 8 then ((fX9_count_i 5 5 gKG).bind fun x_26 => some x_26) else (if i1 = 9 then some gbe else (if i1 = 10 then some gwo else (if i1 = 11 then ((fX9_one 0).bind fun x_33 => some x_33) else (if i1 = 12 then ((fX9_rest_i).bind fun x_38 => some 0) else (if i1 = 13 then some (-1) else (if i1 = 14 then some (nI gRn) else (if (nI gRn) = 0 then some 0 else (if ¬ ((0 : Int32) < 0 ∨ gRn ≤ (0 : Int32).toNatClampNeg) then some (nI gRk) else none)))))))))))))))))
abbrev hX9_meshTold : Cond := .code yX9_meshTold cX9_meshTold 2 (some .int)
theorem mX9_meshTold : yM yX9_meshTold hX9_meshTold 1 := ⟨u_1511, u_64, by decide +kernel, by decide +kernel, by decide +kernel⟩
set_option maxHeartbeats 4000000 in
set_option maxRecDepth 100000 in
theorem kX9_meshTold_i (l : Launch) (D : va_G) (cy : Nat → ClassId) (g : Nat) (gth : Int32) (gw : Nat) (gB : Nat) (gK : Nat) (gU : Nat) (gS : Nat) (gbe : Int32) (gwo : Int32) (gta : Int64) (glr : Int32) (glc : Int32) (gti : Int32) (ggo : Int32) (gR : Nat) (gch : Int32) (gD : Nat) (gwr : Int32) (gwk : Int32) (gwc : Int32) (gwg : Int32) (gws : Int32) (gwa : Nat) (gwb : Nat) (gwad : Nat → Nat) (gwan : Nat) (gwak : Nat) (gwaG : Nat → Nat → Int32) (gwbd : Nat → Nat) (gwbn : Nat) (gwbk : Nat) (gwbG : Nat → Nat → Int32) (gBd : Nat → Nat) (gBG : Nat → Nat → Int32) (gKd : Nat → Nat) (gKG : Nat → Nat → Int32) (gRd : Nat → Nat) (gRn : Nat) (gRk : Nat) (gRG : Nat → Nat → Int32) (i1 : Int32) {res : Int32} (hR : fX9_meshTold_i gbe gwo gwr gwk gwc gwg gws gwan gwak gwaG gwbn gwbk gwbG gBG gKG gRn gRk i1 = some res) : YM l D cy yX9_meshTold hX9_meshTold 4 0 0 [.ref g, .int i1] [[(g, .inr (11, [.int gth, .ref gw, .ref gB, .ref gK, .ref gU, .ref gS, .int gbe, .int gwo, .long gta, .null, .int glr, .int glc, .int gti, .int ggo, .ref gR, .int gch, .ref gD]))], [(gw, .inr (10, [.int gwr, .int gwk, .int gwc, .int gwg, .int gws, .ref gwa, .ref gwb]))], [(gwa, .inl (cy 3, gwan, .inr (.inr (.inr (.inr (yad gwad))))))], xg_rows gwad gwan (cy 1) gwak gwaG, [(gwb, .inl (cy 3, gwbn, .inr (.inr (.inr (.inr (yad gwbd))))))], xg_rows gwbd gwbn (cy 1) gwbk gwbG, [(gB, .inl (cy 4, 5, .inr (.inr (.inr (.inr (yad gBd))))))], xg_rows gBd 5 (cy 2) 5 gBG, [(gK, .inl (cy 4, 5, .inr (.inr (.inr (.inr (yad gKd))))))], xg_rows gKd 5 (cy 2) 5 gKG, [(gR, .inl (cy 3, gRn, .inr (.inr (.inr (.inr (yad gRd))))))], xg_rows gRd gRn (cy 1) gRk gRG] (fun v u => v = some (.int res) ∧ u = [[(g, .inr (11, [.int gth, .ref gw, .ref gB, .ref gK, .ref gU, .ref gS, .int gbe, .int gwo, .long gta, .null, .int glr, .int glc, .int gti, .int ggo, .ref gR, .int gch, .ref gD]))], [(gw, .inr (10, [.int gwr, .int gwk, .int gwc, .int gwg, .int gws, .ref gwa, .ref gwb]))], [(gwa, .inl (cy 3, gwan, .inr (.inr (.inr (.inr (yad gwad))))))], xg_rows gwad gwan (cy 1) gwak gwaG, [(gwb, .inl (cy 3, gwbn, .inr (.inr (.inr (.inr (yad gwbd))))))], xg_rows gwbd gwbn (cy 1) gwbk gwbG, [(gB, .inl (cy 4, 5, .inr (.inr (.inr (.inr (yad gBd))))))], xg_rows gBd 5 (cy 2) 5 gBG, [(gK, .inl (cy 4, 5, .inr (.inr (.inr (.inr (yad gKd))))))], xg_rows gKd 5 (cy 2) 5 gKG, [(gR, .inl (cy 3, gRn, .inr (.inr (.inr (.inr (yad gRd))))))], xg_rows gRd gRn (cy 1) gRk gRG]) := by
  unfold fX9_meshTold_i at hR
  refine YM.ofI (cc := cX9_meshTold) (maxL := 2) (ret := (some .int)) (by decide +kernel) rfl (Nat.le_of_ble_eq_true rfl) [(0, .ref g), (1, .int i1)] rfl rfl (fun p e s m args below meth c A H0 Q C hnm ret => ?_)
  refine xr_iload_n (n := 1) (j := 1) C dd_X9_meshTold_0.1 rfl rfl ?_
  by_cases c_1 : i1 = 0
  · replace hR := yf_t c_1 hR
    refine xr_tableIn (off := 75) (tgt := 76) C dX9_meshTold_1 (by rw [c_1]; decide) (by rw [c_1]; decide) (by rw [c_1]; decide) rfl ?_
    refine xr_aload_n (n := 77) (j := 0) C dd_X9_meshTold_0.2.1 rfl rfl ?_
    refine xr_get (n := 80) C 0 rfl rfl 1 (by decide) in_X9 u_1238 rfl (v := .ref gw) rfl dd_X9_meshTold_0.2.2.1 rfl ?_
    refine xr_get (n := 83) C 1 rfl rfl 0 (by decide) in_X8 u_1201 rfl (v := .int gwr) rfl dd_X9_meshTold_0.2.2.2.1 rfl ?_
    obtain rfl := Option.some.inj hR
    exact ret gwr ⟨rfl, rfl⟩ (Nat.le_of_ble_eq_true rfl) (Nat.le_of_ble_eq_true rfl) dd_X9_meshTold_0.2.2.2.2.1
  replace hR := yf_f c_1 hR
  by_cases c_2 : i1 = 1
  · replace hR := yf_t c_2 hR
    refine xr_tableIn (off := 83) (tgt := 84) C dX9_meshTold_1 (by rw [c_2]; decide) (by rw [c_2]; decide) (by rw [c_2]; decide) rfl ?_
    refine xr_aload_n (n := 85) (j := 0) C dd_X9_meshTold_0.2.2.2.2.2.1 rfl rfl ?_
    refine xr_get (n := 88) C 0 rfl rfl 1 (by decide) in_X9 u_1238 rfl (v := .ref gw) rfl dd_X9_meshTold_0.2.2.2.2.2.2.1 rfl ?_
    refine xr_get (n := 91) C 1 rfl rfl 1 (by decide) in_X8 u_1202 rfl (v := .int gwk) rfl dd_X9_meshTold_0.2.2.2.2.2.2.2.1 rfl ?_
    obtain rfl := Option.some.inj hR
    exact ret gwk ⟨rfl, rfl⟩ (Nat.le_of_ble_eq_true rfl) (Nat.le_of_ble_eq_true rfl) dd_X9_meshTold_0.2.2.2.2.2.2.2.2.1
  replace hR := yf_f c_2 hR
  by_cases c_3 : i1 = 2
  · replace hR := yf_t c_3 hR
    refine xr_tableIn (off := 91) (tgt := 92) C dX9_meshTold_1 (by rw [c_3]; decide) (by rw [c_3]; decide) (by rw [c_3]; decide) rfl ?_
    refine xr_aload_n (n := 93) (j := 0) C dd_X9_meshTold_0.2.2.2.2.2.2.2.2.2.1 rfl rfl ?_
    refine xr_get (n := 96) C 0 rfl rfl 1 (by decide) in_X9 u_1238 rfl (v := .ref gw) rfl dd_X9_meshTold_0.2.2.2.2.2.2.2.2.2.2.1 rfl ?_
    refine xr_get (n := 99) C 1 rfl rfl 2 (by decide) in_X8 u_1205 rfl (v := .int gwc) rfl dd_X9_meshTold_0.2.2.2.2.2.2.2.2.2.2.2.1 rfl ?_
    obtain rfl := Option.some.inj hR
    exact ret gwc ⟨rfl, rfl⟩ (Nat.le_of_ble_eq_true rfl) (Nat.le_of_ble_eq_true rfl) dd_X9_meshTold_0.2.2.2.2.2.2.2.2.2.2.2.2.1
  replace hR := yf_f c_3 hR
  by_cases c_4 : i1 = 3
  · replace hR := yf_t c_4 hR
    refine xr_tableIn (off := 99) (tgt := 100) C dX9_meshTold_1 (by rw [c_4]; decide) (by rw [c_4]; decide) (by rw [c_4]; decide) rfl ?_
    refine xr_aload_n (n := 101) (j := 0) C dd_X9_meshTold_0.2.2.2.2.2.2.2.2.2.2.2.2.2.1 rfl rfl ?_
    refine xr_get (n := 104) C 0 rfl rfl 1 (by decide) in_X9 u_1238 rfl (v := .ref gw) rfl dd_X9_meshTold_0.2.2.2.2.2.2.2.2.2.2.2.2.2.2.1 rfl ?_
    refine xr_get (n := 107) C 1 rfl rfl 3 (by decide) in_X8 u_1207 rfl (v := .int gwg) rfl dd_X9_meshTold_0.2.2.2.2.2.2.2.2.2.2.2.2.2.2.2.1 rfl ?_
    obtain rfl := Option.some.inj hR
    exact ret gwg ⟨rfl, rfl⟩ (Nat.le_of_ble_eq_true rfl) (Nat.le_of_ble_eq_true rfl) dd_X9_meshTold_1.1
  replace hR := yf_f c_4 hR
  by_cases c_5 : i1 = 4
  · replace hR := yf_t c_5 hR
    refine xr_tableIn (off := 107) (tgt := 108) C dX9_meshTold_1 (by rw [c_5]; decide) (by rw [c_5]; decide) (by rw [c_5]; decide) rfl ?_
    refine xr_aload_n (n := 109) (j := 0) C dd_X9_meshTold_1.2.1 rfl rfl ?_
    refine xr_get (n := 112) C 0 rfl rfl 1 (by decide) in_X9 u_1238 rfl (v := .ref gw) rfl dd_X9_meshTold_1.2.2.1 rfl ?_
    refine xr_get (n := 115) C 1 rfl rfl 4 (by decide) in_X8 u_1209 rfl (v := .int gws) rfl dd_X9_meshTold_1.2.2.2.1 rfl ?_
    obtain ⟨x_6, hx_6, hR⟩ := yf_b hR
    refine xr_callSp (n := 118) (As := [.int gws]) (rest := []) C (kX9_one l D cy (i1 := gws) hx_6) mX9_one u_1308 u_1309 12 [] [0, 1, 2, 3, 4, 5, 6, 7, 8, 9, 10, 11] rfl (by decide +kernel) rfl rfl rfl rfl (Nat.le_of_ble_eq_true rfl) (Nat.le_of_ble_eq_true rfl) (Nat.le_of_ble_eq_true rfl) (Nat.le_of_ble_eq_true rfl) (Nat.le_of_ble_eq_true rfl) dd_X9_meshTold_1.2.2.2.2.1 rfl (fun _ _ hp => hp.2) (fun v_7 hp_9 => ?_)
    obtain ⟨rfl, -⟩ := hp_9
    refine xr_st (st' := [.int x_6]) rfl ?_
    obtain rfl := Option.some.inj hR
    exact ret x_6 ⟨rfl, rfl⟩ (Nat.le_of_ble_eq_true rfl) (Nat.le_of_ble_eq_true rfl) dd_X9_meshTold_1.2.2.2.2.2.1
  replace hR := yf_f c_5 hR
  by_cases c_10 : i1 = 5
  · replace hR := yf_t c_10 hR
    refine xr_tableIn (off := 118) (tgt := 119) C dX9_meshTold_1 (by rw [c_10]; decide) (by rw [c_10]; decide) (by rw [c_10]; decide) rfl ?_
    refine xr_aload_n (n := 120) (j := 0) C dd_X9_meshTold_1.2.2.2.2.2.2.1 rfl rfl ?_
    refine xr_get (n := 123) C 0 rfl rfl 1 (by decide) in_X9 u_1238 rfl (v := .ref gw) rfl dd_X9_meshTold_1.2.2.2.2.2.2.2.1 rfl ?_
    obtain ⟨x_11, hx_11, hR⟩ := yf_b hR
    refine xr_callVp (n := 126) (As := []) (rest := []) C (kX8_steps l D cy (w := gw) (wr := gwr) (wk := gwk) (wc := gwc) (wg := gwg) (ws := gws) (wa := gwa) (wb := gwb) (wad := gwad) (wan := gwan) (wak := gwak) (waG := gwaG) (wbd := gwbd) (wbn := gwbn) (wbk := gwbk) (wbG := gwbG) hx_11) mX8_steps u_1355 u_1356 u_1357 1 rfl rfl 12 [1, 2, 3, 4, 5] [0, 6, 7, 8, 9, 10, 11] rfl (by decide +kernel) rfl rfl rfl rfl (Nat.le_of_ble_eq_true rfl) (Nat.le_of_ble_eq_true rfl) (Nat.le_of_ble_eq_true rfl) (Nat.le_of_ble_eq_true rfl) (Nat.le_of_ble_eq_true rfl) dd_X9_meshTold_1.2.2.2.2.2.2.2.2.1 rfl (fun _ _ hp => hp.2) (fun v_12 hp_14 => ?_)
    obtain ⟨rfl, -⟩ := hp_14
    refine xr_st (st' := [.int x_11]) rfl ?_
    obtain rfl := Option.some.inj hR
    exact ret x_11 ⟨rfl, rfl⟩ (Nat.le_of_ble_eq_true rfl) (Nat.le_of_ble_eq_true rfl) dd_X9_meshTold_1.2.2.2.2.2.2.2.2.2.1
  replace hR := yf_f c_10 hR
  by_cases c_15 : i1 = 6
  · replace hR := yf_t c_15 hR
    refine xr_tableIn (off := 126) (tgt := 127) C dX9_meshTold_1 (by rw [c_15]; decide) (by rw [c_15]; decide) (by rw [c_15]; decide) rfl ?_
    refine xr_aload_n (n := 128) (j := 0) C dd_X9_meshTold_1.2.2.2.2.2.2.2.2.2.2.1 rfl rfl ?_
    refine xr_get (n := 131) C 0 rfl rfl 1 (by decide) in_X9 u_1238 rfl (v := .ref gw) rfl dd_X9_meshTold_1.2.2.2.2.2.2.2.2.2.2.2.1 rfl ?_
    obtain ⟨x_16, hx_16, hR⟩ := yf_b hR
    refine xr_callVp (n := 134) (As := []) (rest := []) C (kX8_skipped l D cy (w := gw) (wr := gwr) (wk := gwk) (wc := gwc) (wg := gwg) (ws := gws) (wa := gwa) (wb := gwb) (wad := gwad) (wan := gwan) (wak := gwak) (waG := gwaG) (wbd := gwbd) (wbn := gwbn) (wbk := gwbk) (wbG := gwbG) hx_16) mX8_skipped u_1438 u_1360 u_1361 1 rfl rfl 12 [1, 2, 3, 4, 5] [0, 6, 7, 8, 9, 10, 11] rfl (by decide +kernel) rfl rfl rfl rfl (Nat.le_of_ble_eq_true rfl) (Nat.le_of_ble_eq_true rfl) (Nat.le_of_ble_eq_true rfl) (Nat.le_of_ble_eq_true rfl) (Nat.le_of_ble_eq_true rfl) dd_X9_meshTold_1.2.2.2.2.2.2.2.2.2.2.2.2.1 rfl (fun _ _ hp => hp.2) (fun v_17 hp_19 => ?_)
    obtain ⟨rfl, -⟩ := hp_19
    refine xr_st (st' := [.int x_16]) rfl ?_
    obtain rfl := Option.some.inj hR
    exact ret x_16 ⟨rfl, rfl⟩ (Nat.le_of_ble_eq_true rfl) (Nat.le_of_ble_eq_true rfl) dd_X9_meshTold_1.2.2.2.2.2.2.2.2.2.2.2.2.2.1
  replace hR := yf_f c_15 hR
  by_cases c_20 : i1 = 7
  · replace hR := yf_t c_20 hR
    refine xr_tableIn (off := 134) (tgt := 135) C dX9_meshTold_1 (by rw [c_20]; decide) (by rw [c_20]; decide) (by rw [c_20]; decide) rfl ?_
    refine xr_aload_n (n := 136) (j := 0) C dd_X9_meshTold_1.2.2.2.2.2.2.2.2.2.2.2.2.2.2.1 rfl rfl ?_
    refine xr_aload_n (n := 137) (j := 0) C dd_X9_meshTold_1.2.2.2.2.2.2.2.2.2.2.2.2.2.2.2.1 rfl rfl ?_
    refine xr_get (n := 140) C 0 rfl rfl 2 (by decide) in_X9 u_1239 rfl (v := .ref gB) rfl dd_X9_meshTold_2.1 rfl ?_
    obtain ⟨x_21, hx_21, hR⟩ := yf_b hR
    refine xr_callVp (n := 143) (As := [.ref gB]) (rest := []) C (kX9_count_i l D cy (g := g) (gth := gth) (gw := gw) (gB := gB) (gK := gK) (gU := gU) (gS := gS) (gbe := gbe) (gwo := gwo) (gta := gta) (glr := glr) (glc := glc) (gti := gti) (ggo := ggo) (gR := gR) (gch := gch) (gD := gD) (h := gB) (hd := gBd) (hn := 5) (hk := 5) (hG := gBG) hx_21) mX9_count u_1334 u_1336 u_31 0 rfl rfl 12 [0, 6, 7] [1, 2, 3, 4, 5, 8, 9, 10, 11] rfl (by decide +kernel) rfl rfl rfl rfl (Nat.le_of_ble_eq_true rfl) (Nat.le_of_ble_eq_true rfl) (Nat.le_of_ble_eq_true rfl) (Nat.le_of_ble_eq_true rfl) (Nat.le_of_ble_eq_true rfl) dd_X9_meshTold_2.2.1 rfl (fun _ _ hp => hp.2) (fun v_22 hp_24 => ?_)
    obtain ⟨rfl, -⟩ := hp_24
    refine xr_st (st' := [.int x_21]) rfl ?_
    obtain rfl := Option.some.inj hR
    exact ret x_21 ⟨rfl, rfl⟩ (Nat.le_of_ble_eq_true rfl) (Nat.le_of_ble_eq_true rfl) dd_X9_meshTold_2.2.2.1
  replace hR := yf_f c_20 hR
  by_cases c_25 : i1 = 8
  · replace hR := yf_t c_25 hR
    refine xr_tableIn (off := 143) (tgt := 144) C dX9_meshTold_1 (by rw [c_25]; decide) (by rw [c_25]; decide) (by rw [c_25]; decide) rfl ?_
    refine xr_aload_n (n := 145) (j := 0) C dd_X9_meshTold_2.2.2.2.1 rfl rfl ?_
    refine xr_aload_n (n := 146) (j := 0) C dd_X9_meshTold_2.2.2.2.2.1 rfl rfl ?_
    refine xr_get (n := 149) C 0 rfl rfl 3 (by decide) in_X9 u_1240 rfl (v := .ref gK) rfl dd_X9_meshTold_2.2.2.2.2.2.1 rfl ?_
    obtain ⟨x_26, hx_26, hR⟩ := yf_b hR
    refine xr_callVp (n := 152) (As := [.ref gK]) (rest := []) C (kX9_count_i l D cy (g := g) (gth := gth) (gw := gw) (gB := gB) (gK := gK) (gU := gU) (gS := gS) (gbe := gbe) (gwo := gwo) (gta := gta) (glr := glr) (glc := glc) (gti := gti) (ggo := ggo) (gR := gR) (gch := gch) (gD := gD) (h := gK) (hd := gKd) (hn := 5) (hk := 5) (hG := gKG) hx_26) mX9_count u_1334 u_1336 u_31 0 rfl rfl 12 [0, 8, 9] [1, 2, 3, 4, 5, 6, 7, 10, 11] rfl (by decide +kernel) rfl rfl rfl rfl (Nat.le_of_ble_eq_true rfl) (Nat.le_of_ble_eq_true rfl) (Nat.le_of_ble_eq_true rfl) (Nat.le_of_ble_eq_true rfl) (Nat.le_of_ble_eq_true rfl) dd_X9_meshTold_2.2.2.2.2.2.2.1 rfl (fun _ _ hp => hp.2) (fun v_27 hp_29 => ?_)
    obtain ⟨rfl, -⟩ := hp_29
    refine xr_st (st' := [.int x_26]) rfl ?_
    obtain rfl := Option.some.inj hR
    exact ret x_26 ⟨rfl, rfl⟩ (Nat.le_of_ble_eq_true rfl) (Nat.le_of_ble_eq_true rfl) dd_X9_meshTold_2.2.2.2.2.2.2.2.1
  replace hR := yf_f c_25 hR
  by_cases c_30 : i1 = 9
  · replace hR := yf_t c_30 hR
    refine xr_tableIn (off := 152) (tgt := 153) C dX9_meshTold_1 (by rw [c_30]; decide) (by rw [c_30]; decide) (by rw [c_30]; decide) rfl ?_
    refine xr_aload_n (n := 154) (j := 0) C dd_X9_meshTold_2.2.2.2.2.2.2.2.2.1 rfl rfl ?_
    refine xr_get (n := 157) C 0 rfl rfl 6 (by decide) in_X9 u_1243 rfl (v := .int gbe) rfl dd_X9_meshTold_2.2.2.2.2.2.2.2.2.2.1 rfl ?_
    obtain rfl := Option.some.inj hR
    exact ret gbe ⟨rfl, rfl⟩ (Nat.le_of_ble_eq_true rfl) (Nat.le_of_ble_eq_true rfl) dd_X9_meshTold_2.2.2.2.2.2.2.2.2.2.2.1
  replace hR := yf_f c_30 hR
  by_cases c_31 : i1 = 10
  · replace hR := yf_t c_31 hR
    refine xr_tableIn (off := 157) (tgt := 158) C dX9_meshTold_1 (by rw [c_31]; decide) (by rw [c_31]; decide) (by rw [c_31]; decide) rfl ?_
    refine xr_aload_n (n := 159) (j := 0) C dd_X9_meshTold_2.2.2.2.2.2.2.2.2.2.2.2.1 rfl rfl ?_
    refine xr_get (n := 162) C 0 rfl rfl 7 (by decide) in_X9 u_1244 rfl (v := .int gwo) rfl dd_X9_meshTold_2.2.2.2.2.2.2.2.2.2.2.2.2.1 rfl ?_
    obtain rfl := Option.some.inj hR
    exact ret gwo ⟨rfl, rfl⟩ (Nat.le_of_ble_eq_true rfl) (Nat.le_of_ble_eq_true rfl) dd_X9_meshTold_2.2.2.2.2.2.2.2.2.2.2.2.2.2.1
  replace hR := yf_f c_31 hR
  by_cases c_32 : i1 = 11
  · replace hR := yf_t c_32 hR
    refine xr_tableIn (off := 162) (tgt := 163) C dX9_meshTold_1 (by rw [c_32]; decide) (by rw [c_32]; decide) (by rw [c_32]; decide) rfl ?_
    refine xr_aload_n (n := 164) (j := 0) C dd_X9_meshTold_2.2.2.2.2.2.2.2.2.2.2.2.2.2.2.1 rfl rfl ?_
    refine xr_get (n := 167) C 0 rfl rfl 9 (by decide) in_X9 u_1246 rfl (v := .null) rfl dd_X9_meshTold_2.2.2.2.2.2.2.2.2.2.2.2.2.2.2.2.1 rfl ?_
    refine xr_ifnullN (tgt := 174) C dd_X9_meshTold_3.1 rfl ?_
    refine xr_iconst (n := 175) (v := 0) C dd_X9_meshTold_3.2.2.2.1 rfl rfl ?_
    obtain ⟨x_33, hx_33, hR⟩ := yf_b hR
    refine xr_callSp (n := 178) (As := [.int 0]) (rest := []) C (kX9_one l D cy (i1 := 0) hx_33) mX9_one u_1308 u_1309 12 [] [0, 1, 2, 3, 4, 5, 6, 7, 8, 9, 10, 11] rfl (by decide +kernel) rfl rfl rfl rfl (Nat.le_of_ble_eq_true rfl) (Nat.le_of_ble_eq_true rfl) (Nat.le_of_ble_eq_true rfl) (Nat.le_of_ble_eq_true rfl) (Nat.le_of_ble_eq_true rfl) dd_X9_meshTold_3.2.2.2.2.1 rfl (fun _ _ hp => hp.2) (fun v_34 hp_36 => ?_)
    obtain ⟨rfl, -⟩ := hp_36
    refine xr_st (st' := [.int x_33]) rfl ?_
    obtain rfl := Option.some.inj hR
    exact ret x_33 ⟨rfl, rfl⟩ (Nat.le_of_ble_eq_true rfl) (Nat.le_of_ble_eq_true rfl) dd_X9_meshTold_3.2.2.2.2.2.1
  replace hR := yf_f c_32 hR
  by_cases c_37 : i1 = 12
  · replace hR := yf_t c_37 hR
    refine xr_tableIn (off := 178) (tgt := 179) C dX9_meshTold_1 (by rw [c_37]; decide) (by rw [c_37]; decide) (by rw [c_37]; decide) rfl ?_
    refine xr_aload_n (n := 180) (j := 0) C dd_X9_meshTold_3.2.2.2.2.2.2.1 rfl rfl ?_
    obtain ⟨x_38, hx_38, hR⟩ := yf_b hR
    obtain rfl := Option.some.inj (show some ((0) : Int32) = some x_38 from hx_38)
    refine xr_callVp (n := 183) (As := []) (rest := []) C (kX9_rest_i l D cy (g := g) (gth := gth) (gw := gw) (gB := gB) (gK := gK) (gU := gU) (gS := gS) (gbe := gbe) (gwo := gwo) (gta := gta) (glr := glr) (glc := glc) (gti := gti) (ggo := ggo) (gR := gR) (gch := gch) (gD := gD) hx_38) mX9_left_ u_1414 u_1416 u_35 0 rfl rfl 12 [0] [1, 2, 3, 4, 5, 6, 7, 8, 9, 10, 11] rfl (by decide +kernel) rfl rfl rfl rfl (Nat.le_of_ble_eq_true rfl) (Nat.le_of_ble_eq_true rfl) (Nat.le_of_ble_eq_true rfl) (Nat.le_of_ble_eq_true rfl) (Nat.le_of_ble_eq_true rfl) dd_X9_meshTold_3.2.2.2.2.2.2.2.1 rfl (fun _ _ hp => hp.2) (fun v_39 hp_41 => ?_)
    obtain ⟨rfl, -⟩ := hp_41
    refine xr_st (st' := [.int 0]) rfl ?_
    obtain rfl := Option.some.inj hR
    exact ret 0 ⟨rfl, rfl⟩ (Nat.le_of_ble_eq_true rfl) (Nat.le_of_ble_eq_true rfl) dd_X9_meshTold_3.2.2.2.2.2.2.2.2.1
  replace hR := yf_f c_37 hR
  by_cases c_42 : i1 = 13
  · replace hR := yf_t c_42 hR
    refine xr_tableIn (off := 183) (tgt := 184) C dX9_meshTold_1 (by rw [c_42]; decide) (by rw [c_42]; decide) (by rw [c_42]; decide) rfl ?_
    refine xr_aload_n (n := 185) (j := 0) C dd_X9_meshTold_3.2.2.2.2.2.2.2.2.2.1 rfl rfl ?_
    refine xr_get (n := 188) C 0 rfl rfl 9 (by decide) in_X9 u_1246 rfl (v := .null) rfl dd_X9_meshTold_3.2.2.2.2.2.2.2.2.2.2.1 rfl ?_
    refine xr_ifnonnullN (n := 191) C dd_X9_meshTold_3.2.2.2.2.2.2.2.2.2.2.2.1 rfl ?_
    refine xr_iconst (n := 192) (v := -1) C dd_X9_meshTold_3.2.2.2.2.2.2.2.2.2.2.2.2.1 rfl rfl ?_
    refine xr_goto (tgt := 199) C dd_X9_meshTold_3.2.2.2.2.2.2.2.2.2.2.2.2.2.1 rfl ?_
    obtain rfl := Option.some.inj hR
    exact ret (-1) ⟨rfl, rfl⟩ (Nat.le_of_ble_eq_true rfl) (Nat.le_of_ble_eq_true rfl) dd_X9_meshTold_4.1
  replace hR := yf_f c_42 hR
  by_cases c_43 : i1 = 14
  · replace hR := yf_t c_43 hR
    refine xr_tableIn (off := 199) (tgt := 200) C dX9_meshTold_1 (by rw [c_43]; decide) (by rw [c_43]; decide) (by rw [c_43]; decide) rfl ?_
    refine xr_aload_n (n := 201) (j := 0) C dd_X9_meshTold_4.2.1 rfl rfl ?_
    refine xr_get (n := 204) C 0 rfl rfl 14 (by decide) in_X9 u_1251 rfl (v := .ref gR) rfl dd_X9_meshTold_4.2.2.1 rfl ?_
    refine xr_alen (n := 205) C 10 0 rfl 3 rfl rfl dd_X9_meshTold_4.2.2.2.1 rfl ?_
    obtain rfl := Option.some.inj hR
    exact ret (nI gRn) ⟨rfl, rfl⟩ (Nat.le_of_ble_eq_true rfl) (Nat.le_of_ble_eq_true rfl) dd_X9_meshTold_4.2.2.2.2.1
  replace hR := yf_f c_43 hR
  refine xr_tableOut (tgt := 206) C dX9_meshTold_1 (ytab_out (fun k h1 h2 => by
    rcases (show k = 0 ∨ k = 1 ∨ k = 2 ∨ k = 3 ∨ k = 4 ∨ k = 5 ∨ k = 6 ∨ k = 7 ∨ k = 8 ∨ k = 9 ∨ k = 10 ∨ k = 11 ∨ k = 12 ∨ k = 13 ∨ k = 14 by omega) with rfl | rfl | rfl | rfl | rfl | rfl | rfl | rfl | rfl | rfl | rfl | rfl | rfl | rfl | rfl
    · exact c_1
    · exact c_2
    · exact c_3
    · exact c_4
    · exact c_5
    · exact c_10
    · exact c_15
    · exact c_20
    · exact c_25
    · exact c_30
    · exact c_31
    · exact c_32
    · exact c_37
    · exact c_42
    · exact c_43)) rfl ?_
  refine xr_aload_n (n := 207) (j := 0) C dd_X9_meshTold_4.2.2.2.2.2.1 rfl rfl ?_
  refine xr_get (n := 210) C 0 rfl rfl 14 (by decide) in_X9 u_1251 rfl (v := .ref gR) rfl dd_X9_meshTold_4.2.2.2.2.2.2.1 rfl ?_
  refine xr_alen (n := 211) C 10 0 rfl 3 rfl rfl dd_X9_meshTold_4.2.2.2.2.2.2.2.1 rfl ?_
  refine xr_if_ne (tgt := 218) (n := 214) C dd_X9_meshTold_4.2.2.2.2.2.2.2.2.1 rfl rfl (fun c_44 => ?_) (fun c_44 => ?_)
  · replace hR := yf_f c_44 hR
    refine xr_aload_n (n := 219) (j := 0) C dd_X9_meshTold_4.2.2.2.2.2.2.2.2.2.2.2.1 rfl rfl ?_
    refine xr_get (n := 222) C 0 rfl rfl 14 (by decide) in_X9 u_1251 rfl (v := .ref gR) rfl dd_X9_meshTold_4.2.2.2.2.2.2.2.2.2.2.2.2.1 rfl ?_
    refine xr_iconst (n := 223) (v := 0) C dd_X9_meshTold_4.2.2.2.2.2.2.2.2.2.2.2.2.2.1 rfl rfl ?_
    obtain ⟨g_45, hR⟩ := yf_g hR
    refine xr_aald (n := 224) C 10 0 rfl 3 rfl rfl g_45 rfl dd_X9_meshTold_4.2.2.2.2.2.2.2.2.2.2.2.2.2.2.1 rfl ?_
    refine xr_aleng (n := 225) C 11 1 rfl ((0 : Int32).toNatClampNeg) (ylt g_45) rfl dd_X9_meshTold_4.2.2.2.2.2.2.2.2.2.2.2.2.2.2.2.1 rfl ?_
    obtain rfl := Option.some.inj hR
    exact ret (nI gRk) ⟨rfl, rfl⟩ (Nat.le_of_ble_eq_true rfl) (Nat.le_of_ble_eq_true rfl) dd_X9_meshTold_5.1
  · replace hR := yf_t c_44 hR
    refine xr_iconst (n := 215) (v := 0) C dd_X9_meshTold_4.2.2.2.2.2.2.2.2.2.1 rfl rfl ?_
    refine xr_goto (tgt := 225) C dd_X9_meshTold_4.2.2.2.2.2.2.2.2.2.2.1 rfl ?_
    obtain rfl := Option.some.inj hR
    exact ret 0 ⟨rfl, rfl⟩ (Nat.le_of_ble_eq_true rfl) (Nat.le_of_ble_eq_true rfl) dd_X9_meshTold_5.1
def fX9_meshTold_r (gbe : Int32) (gwo : Int32) (glr : Int32) (glc : Int32) (gti : Int32) (ggo : Int32) (gwr : Int32) (gwk : Int32) (gwc : Int32) (gwg : Int32) (gws : Int32) (gwan : Nat) (gwak : Nat) (gwaG : Nat → Nat → Int32) (gwbn : Nat) (gwbk : Nat) (gwbG : Nat → Nat → Int32) (gBG : Nat → Nat → Int32) (gKG : Nat → Nat → Int32) (gRn : Nat) (gRk : Nat) (gnr : Int32) (gnk : Int32) (gnc : Int32) (gng : Int32) (gns : Int32) (gnan : Nat) (gnak : Nat) (gnaG : Nat → Nat → Int32) (gnbn : Nat) (gnbk : Nat) (gnbG : Nat → Nat → Int32) (i1 : Int32) : Option (Int32) := (if i1 = 0 then some gwr else (if i1 = 1 then some gwk else (if i1 = 2 then some gwc else (if i1 = 3 then some gwg else (if i1 = 4 then ((fX9_one gws).bind fun x_6 => some x_6) else (if i1 = 5 then ((fX8_steps gwk gwg gwan gwak gwaG gwbn gwbk gwbG).bind fun x_11 => some x_11) else (if i1 = 6 then ((fX8_skipped gwk gwg gwan gwak gwaG gwbn gwbk gwbG).bind fun x_16 => some x_16) else (if i1 = 7 then ((fX9_count_r 5 5 gBG).bind fun x_21 => some x_21) else (if i1 = 8 then ((fX9_count_r 5 5 gKG).bind fun x_26 => some x_26) else (if i1 = 9 then some gbe else (if i1 = 10 then some gwo else (if i1 = 11 then ((fX9_one 1).bind fun x_33 => some x_33) else (if i1 = 12 then ((fX9_rest_r glr glc gti ggo gnr gnk gnc gng gns gnan gnak gnaG gnbn gnbk gnbG).bind fun x_38 => some x_38) else (if i1 = 13 then some gti else (if i1 = 14 then some (nI gRn) else (if (nI gRn) = 0 then some 0 else (if ¬ ((0 : Int32) < 0 ∨ gRn ≤ (0 : Int32).toNatClampNeg) then some (nI gRk) else none)))))))))))))))))
set_option maxHeartbeats 4000000 in
set_option maxRecDepth 100000 in
theorem kX9_meshTold_r (l : Launch) (D : va_G) (cy : Nat → ClassId) (g : Nat) (gth : Int32) (gw : Nat) (gB : Nat) (gK : Nat) (gU : Nat) (gS : Nat) (gbe : Int32) (gwo : Int32) (gta : Int64) (gn : Nat) (glr : Int32) (glc : Int32) (gti : Int32) (ggo : Int32) (gR : Nat) (gch : Int32) (gD : Nat) (gwr : Int32) (gwk : Int32) (gwc : Int32) (gwg : Int32) (gws : Int32) (gwa : Nat) (gwb : Nat) (gwad : Nat → Nat) (gwan : Nat) (gwak : Nat) (gwaG : Nat → Nat → Int32) (gwbd : Nat → Nat) (gwbn : Nat) (gwbk : Nat) (gwbG : Nat → Nat → Int32) (gBd : Nat → Nat) (gBG : Nat → Nat → Int32) (gKd : Nat → Nat) (gKG : Nat → Nat → Int32) (gRd : Nat → Nat) (gRn : Nat) (gRk : Nat) (gRG : Nat → Nat → Int32) (gnr : Int32) (gnk : Int32) (gnc : Int32) (gng : Int32) (gns : Int32) (gna : Nat) (gnb : Nat) (gnad : Nat → Nat) (gnan : Nat) (gnak : Nat) (gnaG : Nat → Nat → Int32) (gnbd : Nat → Nat) (gnbn : Nat) (gnbk : Nat) (gnbG : Nat → Nat → Int32) (i1 : Int32) {res : Int32} (hR : fX9_meshTold_r gbe gwo glr glc gti ggo gwr gwk gwc gwg gws gwan gwak gwaG gwbn gwbk gwbG gBG gKG gRn gRk gnr gnk gnc gng gns gnan gnak gnaG gnbn gnbk gnbG i1 = some res) : YM l D cy yX9_meshTold hX9_meshTold 6 0 0 [.ref g, .int i1] [[(g, .inr (11, [.int gth, .ref gw, .ref gB, .ref gK, .ref gU, .ref gS, .int gbe, .int gwo, .long gta, .ref gn, .int glr, .int glc, .int gti, .int ggo, .ref gR, .int gch, .ref gD]))], [(gw, .inr (10, [.int gwr, .int gwk, .int gwc, .int gwg, .int gws, .ref gwa, .ref gwb]))], [(gwa, .inl (cy 3, gwan, .inr (.inr (.inr (.inr (yad gwad))))))], xg_rows gwad gwan (cy 1) gwak gwaG, [(gwb, .inl (cy 3, gwbn, .inr (.inr (.inr (.inr (yad gwbd))))))], xg_rows gwbd gwbn (cy 1) gwbk gwbG, [(gB, .inl (cy 4, 5, .inr (.inr (.inr (.inr (yad gBd))))))], xg_rows gBd 5 (cy 2) 5 gBG, [(gK, .inl (cy 4, 5, .inr (.inr (.inr (.inr (yad gKd))))))], xg_rows gKd 5 (cy 2) 5 gKG, [(gR, .inl (cy 3, gRn, .inr (.inr (.inr (.inr (yad gRd))))))], xg_rows gRd gRn (cy 1) gRk gRG, [(gn, .inr (10, [.int gnr, .int gnk, .int gnc, .int gng, .int gns, .ref gna, .ref gnb]))], [(gna, .inl (cy 3, gnan, .inr (.inr (.inr (.inr (yad gnad))))))], xg_rows gnad gnan (cy 1) gnak gnaG, [(gnb, .inl (cy 3, gnbn, .inr (.inr (.inr (.inr (yad gnbd))))))], xg_rows gnbd gnbn (cy 1) gnbk gnbG] (fun v u => v = some (.int res) ∧ u = [[(g, .inr (11, [.int gth, .ref gw, .ref gB, .ref gK, .ref gU, .ref gS, .int gbe, .int gwo, .long gta, .ref gn, .int glr, .int glc, .int gti, .int ggo, .ref gR, .int gch, .ref gD]))], [(gw, .inr (10, [.int gwr, .int gwk, .int gwc, .int gwg, .int gws, .ref gwa, .ref gwb]))], [(gwa, .inl (cy 3, gwan, .inr (.inr (.inr (.inr (yad gwad))))))], xg_rows gwad gwan (cy 1) gwak gwaG, [(gwb, .inl (cy 3, gwbn, .inr (.inr (.inr (.inr (yad gwbd))))))], xg_rows gwbd gwbn (cy 1) gwbk gwbG, [(gB, .inl (cy 4, 5, .inr (.inr (.inr (.inr (yad gBd))))))], xg_rows gBd 5 (cy 2) 5 gBG, [(gK, .inl (cy 4, 5, .inr (.inr (.inr (.inr (yad gKd))))))], xg_rows gKd 5 (cy 2) 5 gKG, [(gR, .inl (cy 3, gRn, .inr (.inr (.inr (.inr (yad gRd))))))], xg_rows gRd gRn (cy 1) gRk gRG, [(gn, .inr (10, [.int gnr, .int gnk, .int gnc, .int gng, .int gns, .ref gna, .ref gnb]))], [(gna, .inl (cy 3, gnan, .inr (.inr (.inr (.inr (yad gnad))))))], xg_rows gnad gnan (cy 1) gnak gnaG, [(gnb, .inl (cy 3, gnbn, .inr (.inr (.inr (.inr (yad gnbd))))))], xg_rows gnbd gnbn (cy 1) gnbk gnbG]) := by
  unfold fX9_meshTold_r at hR
  refine YM.ofI (cc := cX9_meshTold) (maxL := 2) (ret := (some .int)) (by decide +kernel) rfl (Nat.le_of_ble_eq_true rfl) [(0, .ref g), (1, .int i1)] rfl rfl (fun p e s m args below meth c A H0 Q C hnm ret => ?_)
  refine xr_iload_n (n := 1) (j := 1) C dd_X9_meshTold_0.1 rfl rfl ?_
  by_cases c_1 : i1 = 0
  · replace hR := yf_t c_1 hR
    refine xr_tableIn (off := 75) (tgt := 76) C dX9_meshTold_1 (by rw [c_1]; decide) (by rw [c_1]; decide) (by rw [c_1]; decide) rfl ?_
    refine xr_aload_n (n := 77) (j := 0) C dd_X9_meshTold_0.2.1 rfl rfl ?_
    refine xr_get (n := 80) C 0 rfl rfl 1 (by decide) in_X9 u_1238 rfl (v := .ref gw) rfl dd_X9_meshTold_0.2.2.1 rfl ?_
    refine xr_get (n := 83) C 1 rfl rfl 0 (by decide) in_X8 u_1201 rfl (v := .int gwr) rfl dd_X9_meshTold_0.2.2.2.1 rfl ?_
    obtain rfl := Option.some.inj hR
    exact ret gwr ⟨rfl, rfl⟩ (Nat.le_of_ble_eq_true rfl) (Nat.le_of_ble_eq_true rfl) dd_X9_meshTold_0.2.2.2.2.1
  replace hR := yf_f c_1 hR
  by_cases c_2 : i1 = 1
  · replace hR := yf_t c_2 hR
    refine xr_tableIn (off := 83) (tgt := 84) C dX9_meshTold_1 (by rw [c_2]; decide) (by rw [c_2]; decide) (by rw [c_2]; decide) rfl ?_
    refine xr_aload_n (n := 85) (j := 0) C dd_X9_meshTold_0.2.2.2.2.2.1 rfl rfl ?_
    refine xr_get (n := 88) C 0 rfl rfl 1 (by decide) in_X9 u_1238 rfl (v := .ref gw) rfl dd_X9_meshTold_0.2.2.2.2.2.2.1 rfl ?_
    refine xr_get (n := 91) C 1 rfl rfl 1 (by decide) in_X8 u_1202 rfl (v := .int gwk) rfl dd_X9_meshTold_0.2.2.2.2.2.2.2.1 rfl ?_
    obtain rfl := Option.some.inj hR
    exact ret gwk ⟨rfl, rfl⟩ (Nat.le_of_ble_eq_true rfl) (Nat.le_of_ble_eq_true rfl) dd_X9_meshTold_0.2.2.2.2.2.2.2.2.1
  replace hR := yf_f c_2 hR
  by_cases c_3 : i1 = 2
  · replace hR := yf_t c_3 hR
    refine xr_tableIn (off := 91) (tgt := 92) C dX9_meshTold_1 (by rw [c_3]; decide) (by rw [c_3]; decide) (by rw [c_3]; decide) rfl ?_
    refine xr_aload_n (n := 93) (j := 0) C dd_X9_meshTold_0.2.2.2.2.2.2.2.2.2.1 rfl rfl ?_
    refine xr_get (n := 96) C 0 rfl rfl 1 (by decide) in_X9 u_1238 rfl (v := .ref gw) rfl dd_X9_meshTold_0.2.2.2.2.2.2.2.2.2.2.1 rfl ?_
    refine xr_get (n := 99) C 1 rfl rfl 2 (by decide) in_X8 u_1205 rfl (v := .int gwc) rfl dd_X9_meshTold_0.2.2.2.2.2.2.2.2.2.2.2.1 rfl ?_
    obtain rfl := Option.some.inj hR
    exact ret gwc ⟨rfl, rfl⟩ (Nat.le_of_ble_eq_true rfl) (Nat.le_of_ble_eq_true rfl) dd_X9_meshTold_0.2.2.2.2.2.2.2.2.2.2.2.2.1
  replace hR := yf_f c_3 hR
  by_cases c_4 : i1 = 3
  · replace hR := yf_t c_4 hR
    refine xr_tableIn (off := 99) (tgt := 100) C dX9_meshTold_1 (by rw [c_4]; decide) (by rw [c_4]; decide) (by rw [c_4]; decide) rfl ?_
    refine xr_aload_n (n := 101) (j := 0) C dd_X9_meshTold_0.2.2.2.2.2.2.2.2.2.2.2.2.2.1 rfl rfl ?_
    refine xr_get (n := 104) C 0 rfl rfl 1 (by decide) in_X9 u_1238 rfl (v := .ref gw) rfl dd_X9_meshTold_0.2.2.2.2.2.2.2.2.2.2.2.2.2.2.1 rfl ?_
    refine xr_get (n := 107) C 1 rfl rfl 3 (by decide) in_X8 u_1207 rfl (v := .int gwg) rfl dd_X9_meshTold_0.2.2.2.2.2.2.2.2.2.2.2.2.2.2.2.1 rfl ?_
    obtain rfl := Option.some.inj hR
    exact ret gwg ⟨rfl, rfl⟩ (Nat.le_of_ble_eq_true rfl) (Nat.le_of_ble_eq_true rfl) dd_X9_meshTold_1.1
  replace hR := yf_f c_4 hR
  by_cases c_5 : i1 = 4
  · replace hR := yf_t c_5 hR
    refine xr_tableIn (off := 107) (tgt := 108) C dX9_meshTold_1 (by rw [c_5]; decide) (by rw [c_5]; decide) (by rw [c_5]; decide) rfl ?_
    refine xr_aload_n (n := 109) (j := 0) C dd_X9_meshTold_1.2.1 rfl rfl ?_
    refine xr_get (n := 112) C 0 rfl rfl 1 (by decide) in_X9 u_1238 rfl (v := .ref gw) rfl dd_X9_meshTold_1.2.2.1 rfl ?_
    refine xr_get (n := 115) C 1 rfl rfl 4 (by decide) in_X8 u_1209 rfl (v := .int gws) rfl dd_X9_meshTold_1.2.2.2.1 rfl ?_
    obtain ⟨x_6, hx_6, hR⟩ := yf_b hR
    refine xr_callSp (n := 118) (As := [.int gws]) (rest := []) C (kX9_one l D cy (i1 := gws) hx_6) mX9_one u_1308 u_1309 17 [] [0, 1, 2, 3, 4, 5, 6, 7, 8, 9, 10, 11, 12, 13, 14, 15, 16] rfl (by decide +kernel) rfl rfl rfl rfl (Nat.le_of_ble_eq_true rfl) (Nat.le_of_ble_eq_true rfl) (Nat.le_of_ble_eq_true rfl) (Nat.le_of_ble_eq_true rfl) (Nat.le_of_ble_eq_true rfl) dd_X9_meshTold_1.2.2.2.2.1 rfl (fun _ _ hp => hp.2) (fun v_7 hp_9 => ?_)
    obtain ⟨rfl, -⟩ := hp_9
    refine xr_st (st' := [.int x_6]) rfl ?_
    obtain rfl := Option.some.inj hR
    exact ret x_6 ⟨rfl, rfl⟩ (Nat.le_of_ble_eq_true rfl) (Nat.le_of_ble_eq_true rfl) dd_X9_meshTold_1.2.2.2.2.2.1
  replace hR := yf_f c_5 hR
  by_cases c_10 : i1 = 5
  · replace hR := yf_t c_10 hR
    refine xr_tableIn (off := 118) (tgt := 119) C dX9_meshTold_1 (by rw [c_10]; decide) (by rw [c_10]; decide) (by rw [c_10]; decide) rfl ?_
    refine xr_aload_n (n := 120) (j := 0) C dd_X9_meshTold_1.2.2.2.2.2.2.1 rfl rfl ?_
    refine xr_get (n := 123) C 0 rfl rfl 1 (by decide) in_X9 u_1238 rfl (v := .ref gw) rfl dd_X9_meshTold_1.2.2.2.2.2.2.2.1 rfl ?_
    obtain ⟨x_11, hx_11, hR⟩ := yf_b hR
    refine xr_callVp (n := 126) (As := []) (rest := []) C (kX8_steps l D cy (w := gw) (wr := gwr) (wk := gwk) (wc := gwc) (wg := gwg) (ws := gws) (wa := gwa) (wb := gwb) (wad := gwad) (wan := gwan) (wak := gwak) (waG := gwaG) (wbd := gwbd) (wbn := gwbn) (wbk := gwbk) (wbG := gwbG) hx_11) mX8_steps u_1355 u_1356 u_1357 1 rfl rfl 17 [1, 2, 3, 4, 5] [0, 6, 7, 8, 9, 10, 11, 12, 13, 14, 15, 16] rfl (by decide +kernel) rfl rfl rfl rfl (Nat.le_of_ble_eq_true rfl) (Nat.le_of_ble_eq_true rfl) (Nat.le_of_ble_eq_true rfl) (Nat.le_of_ble_eq_true rfl) (Nat.le_of_ble_eq_true rfl) dd_X9_meshTold_1.2.2.2.2.2.2.2.2.1 rfl (fun _ _ hp => hp.2) (fun v_12 hp_14 => ?_)
    obtain ⟨rfl, -⟩ := hp_14
    refine xr_st (st' := [.int x_11]) rfl ?_
    obtain rfl := Option.some.inj hR
    exact ret x_11 ⟨rfl, rfl⟩ (Nat.le_of_ble_eq_true rfl) (Nat.le_of_ble_eq_true rfl) dd_X9_meshTold_1.2.2.2.2.2.2.2.2.2.1
  replace hR := yf_f c_10 hR
  by_cases c_15 : i1 = 6
  · replace hR := yf_t c_15 hR
    refine xr_tableIn (off := 126) (tgt := 127) C dX9_meshTold_1 (by rw [c_15]; decide) (by rw [c_15]; decide) (by rw [c_15]; decide) rfl ?_
    refine xr_aload_n (n := 128) (j := 0) C dd_X9_meshTold_1.2.2.2.2.2.2.2.2.2.2.1 rfl rfl ?_
    refine xr_get (n := 131) C 0 rfl rfl 1 (by decide) in_X9 u_1238 rfl (v := .ref gw) rfl dd_X9_meshTold_1.2.2.2.2.2.2.2.2.2.2.2.1 rfl ?_
    obtain ⟨x_16, hx_16, hR⟩ := yf_b hR
    refine xr_callVp (n := 134) (As := []) (rest := []) C (kX8_skipped l D cy (w := gw) (wr := gwr) (wk := gwk) (wc := gwc) (wg := gwg) (ws := gws) (wa := gwa) (wb := gwb) (wad := gwad) (wan := gwan) (wak := gwak) (waG := gwaG) (wbd := gwbd) (wbn := gwbn) (wbk := gwbk) (wbG := gwbG) hx_16) mX8_skipped u_1438 u_1360 u_1361 1 rfl rfl 17 [1, 2, 3, 4, 5] [0, 6, 7, 8, 9, 10, 11, 12, 13, 14, 15, 16] rfl (by decide +kernel) rfl rfl rfl rfl (Nat.le_of_ble_eq_true rfl) (Nat.le_of_ble_eq_true rfl) (Nat.le_of_ble_eq_true rfl) (Nat.le_of_ble_eq_true rfl) (Nat.le_of_ble_eq_true rfl) dd_X9_meshTold_1.2.2.2.2.2.2.2.2.2.2.2.2.1 rfl (fun _ _ hp => hp.2) (fun v_17 hp_19 => ?_)
    obtain ⟨rfl, -⟩ := hp_19
    refine xr_st (st' := [.int x_16]) rfl ?_
    obtain rfl := Option.some.inj hR
    exact ret x_16 ⟨rfl, rfl⟩ (Nat.le_of_ble_eq_true rfl) (Nat.le_of_ble_eq_true rfl) dd_X9_meshTold_1.2.2.2.2.2.2.2.2.2.2.2.2.2.1
  replace hR := yf_f c_15 hR
  by_cases c_20 : i1 = 7
  · replace hR := yf_t c_20 hR
    refine xr_tableIn (off := 134) (tgt := 135) C dX9_meshTold_1 (by rw [c_20]; decide) (by rw [c_20]; decide) (by rw [c_20]; decide) rfl ?_
    refine xr_aload_n (n := 136) (j := 0) C dd_X9_meshTold_1.2.2.2.2.2.2.2.2.2.2.2.2.2.2.1 rfl rfl ?_
    refine xr_aload_n (n := 137) (j := 0) C dd_X9_meshTold_1.2.2.2.2.2.2.2.2.2.2.2.2.2.2.2.1 rfl rfl ?_
    refine xr_get (n := 140) C 0 rfl rfl 2 (by decide) in_X9 u_1239 rfl (v := .ref gB) rfl dd_X9_meshTold_2.1 rfl ?_
    obtain ⟨x_21, hx_21, hR⟩ := yf_b hR
    refine xr_callVp (n := 143) (As := [.ref gB]) (rest := []) C (kX9_count_r l D cy (g := g) (gth := gth) (gw := gw) (gB := gB) (gK := gK) (gU := gU) (gS := gS) (gbe := gbe) (gwo := gwo) (gta := gta) (gn := gn) (glr := glr) (glc := glc) (gti := gti) (ggo := ggo) (gR := gR) (gch := gch) (gD := gD) (h := gB) (hd := gBd) (hn := 5) (hk := 5) (hG := gBG) hx_21) mX9_count u_1334 u_1336 u_31 0 rfl rfl 17 [0, 6, 7] [1, 2, 3, 4, 5, 8, 9, 10, 11, 12, 13, 14, 15, 16] rfl (by decide +kernel) rfl rfl rfl rfl (Nat.le_of_ble_eq_true rfl) (Nat.le_of_ble_eq_true rfl) (Nat.le_of_ble_eq_true rfl) (Nat.le_of_ble_eq_true rfl) (Nat.le_of_ble_eq_true rfl) dd_X9_meshTold_2.2.1 rfl (fun _ _ hp => hp.2) (fun v_22 hp_24 => ?_)
    obtain ⟨rfl, -⟩ := hp_24
    refine xr_st (st' := [.int x_21]) rfl ?_
    obtain rfl := Option.some.inj hR
    exact ret x_21 ⟨rfl, rfl⟩ (Nat.le_of_ble_eq_true rfl) (Nat.le_of_ble_eq_true rfl) dd_X9_meshTold_2.2.2.1
  replace hR := yf_f c_20 hR
  by_cases c_25 : i1 = 8
  · replace hR := yf_t c_25 hR
    refine xr_tableIn (off := 143) (tgt := 144) C dX9_meshTold_1 (by rw [c_25]; decide) (by rw [c_25]; decide) (by rw [c_25]; decide) rfl ?_
    refine xr_aload_n (n := 145) (j := 0) C dd_X9_meshTold_2.2.2.2.1 rfl rfl ?_
    refine xr_aload_n (n := 146) (j := 0) C dd_X9_meshTold_2.2.2.2.2.1 rfl rfl ?_
    refine xr_get (n := 149) C 0 rfl rfl 3 (by decide) in_X9 u_1240 rfl (v := .ref gK) rfl dd_X9_meshTold_2.2.2.2.2.2.1 rfl ?_
    obtain ⟨x_26, hx_26, hR⟩ := yf_b hR
    refine xr_callVp (n := 152) (As := [.ref gK]) (rest := []) C (kX9_count_r l D cy (g := g) (gth := gth) (gw := gw) (gB := gB) (gK := gK) (gU := gU) (gS := gS) (gbe := gbe) (gwo := gwo) (gta := gta) (gn := gn) (glr := glr) (glc := glc) (gti := gti) (ggo := ggo) (gR := gR) (gch := gch) (gD := gD) (h := gK) (hd := gKd) (hn := 5) (hk := 5) (hG := gKG) hx_26) mX9_count u_1334 u_1336 u_31 0 rfl rfl 17 [0, 8, 9] [1, 2, 3, 4, 5, 6, 7, 10, 11, 12, 13, 14, 15, 16] rfl (by decide +kernel) rfl rfl rfl rfl (Nat.le_of_ble_eq_true rfl) (Nat.le_of_ble_eq_true rfl) (Nat.le_of_ble_eq_true rfl) (Nat.le_of_ble_eq_true rfl) (Nat.le_of_ble_eq_true rfl) dd_X9_meshTold_2.2.2.2.2.2.2.1 rfl (fun _ _ hp => hp.2) (fun v_27 hp_29 => ?_)
    obtain ⟨rfl, -⟩ := hp_29
    refine xr_st (st' := [.int x_26]) rfl ?_
    obtain rfl := Option.some.inj hR
    exact ret x_26 ⟨rfl, rfl⟩ (Nat.le_of_ble_eq_true rfl) (Nat.le_of_ble_eq_true rfl) dd_X9_meshTold_2.2.2.2.2.2.2.2.1
  replace hR := yf_f c_25 hR
  by_cases c_30 : i1 = 9
  · replace hR := yf_t c_30 hR
    refine xr_tableIn (off := 152) (tgt := 153) C dX9_meshTold_1 (by rw [c_30]; decide) (by rw [c_30]; decide) (by rw [c_30]; decide) rfl ?_
    refine xr_aload_n (n := 154) (j := 0) C dd_X9_meshTold_2.2.2.2.2.2.2.2.2.1 rfl rfl ?_
    refine xr_get (n := 157) C 0 rfl rfl 6 (by decide) in_X9 u_1243 rfl (v := .int gbe) rfl dd_X9_meshTold_2.2.2.2.2.2.2.2.2.2.1 rfl ?_
    obtain rfl := Option.some.inj hR
    exact ret gbe ⟨rfl, rfl⟩ (Nat.le_of_ble_eq_true rfl) (Nat.le_of_ble_eq_true rfl) dd_X9_meshTold_2.2.2.2.2.2.2.2.2.2.2.1
  replace hR := yf_f c_30 hR
  by_cases c_31 : i1 = 10
  · replace hR := yf_t c_31 hR
    refine xr_tableIn (off := 157) (tgt := 158) C dX9_meshTold_1 (by rw [c_31]; decide) (by rw [c_31]; decide) (by rw [c_31]; decide) rfl ?_
    refine xr_aload_n (n := 159) (j := 0) C dd_X9_meshTold_2.2.2.2.2.2.2.2.2.2.2.2.1 rfl rfl ?_
    refine xr_get (n := 162) C 0 rfl rfl 7 (by decide) in_X9 u_1244 rfl (v := .int gwo) rfl dd_X9_meshTold_2.2.2.2.2.2.2.2.2.2.2.2.2.1 rfl ?_
    obtain rfl := Option.some.inj hR
    exact ret gwo ⟨rfl, rfl⟩ (Nat.le_of_ble_eq_true rfl) (Nat.le_of_ble_eq_true rfl) dd_X9_meshTold_2.2.2.2.2.2.2.2.2.2.2.2.2.2.1
  replace hR := yf_f c_31 hR
  by_cases c_32 : i1 = 11
  · replace hR := yf_t c_32 hR
    refine xr_tableIn (off := 162) (tgt := 163) C dX9_meshTold_1 (by rw [c_32]; decide) (by rw [c_32]; decide) (by rw [c_32]; decide) rfl ?_
    refine xr_aload_n (n := 164) (j := 0) C dd_X9_meshTold_2.2.2.2.2.2.2.2.2.2.2.2.2.2.2.1 rfl rfl ?_
    refine xr_get (n := 167) C 0 rfl rfl 9 (by decide) in_X9 u_1246 rfl (v := .ref gn) rfl dd_X9_meshTold_2.2.2.2.2.2.2.2.2.2.2.2.2.2.2.2.1 rfl ?_
    refine xr_ifnull (n := 170) C dd_X9_meshTold_3.1 rfl ?_
    refine xr_iconst (n := 171) (v := 1) C dd_X9_meshTold_3.2.1 rfl rfl ?_
    refine xr_goto (tgt := 175) C dd_X9_meshTold_3.2.2.1 rfl ?_
    obtain ⟨x_33, hx_33, hR⟩ := yf_b hR
    refine xr_callSp (n := 178) (As := [.int 1]) (rest := []) C (kX9_one l D cy (i1 := 1) hx_33) mX9_one u_1308 u_1309 17 [] [0, 1, 2, 3, 4, 5, 6, 7, 8, 9, 10, 11, 12, 13, 14, 15, 16] rfl (by decide +kernel) rfl rfl rfl rfl (Nat.le_of_ble_eq_true rfl) (Nat.le_of_ble_eq_true rfl) (Nat.le_of_ble_eq_true rfl) (Nat.le_of_ble_eq_true rfl) (Nat.le_of_ble_eq_true rfl) dd_X9_meshTold_3.2.2.2.2.1 rfl (fun _ _ hp => hp.2) (fun v_34 hp_36 => ?_)
    obtain ⟨rfl, -⟩ := hp_36
    refine xr_st (st' := [.int x_33]) rfl ?_
    obtain rfl := Option.some.inj hR
    exact ret x_33 ⟨rfl, rfl⟩ (Nat.le_of_ble_eq_true rfl) (Nat.le_of_ble_eq_true rfl) dd_X9_meshTold_3.2.2.2.2.2.1
  replace hR := yf_f c_32 hR
  by_cases c_37 : i1 = 12
  · replace hR := yf_t c_37 hR
    refine xr_tableIn (off := 178) (tgt := 179) C dX9_meshTold_1 (by rw [c_37]; decide) (by rw [c_37]; decide) (by rw [c_37]; decide) rfl ?_
    refine xr_aload_n (n := 180) (j := 0) C dd_X9_meshTold_3.2.2.2.2.2.2.1 rfl rfl ?_
    obtain ⟨x_38, hx_38, hR⟩ := yf_b hR
    refine xr_callVp (n := 183) (As := []) (rest := []) C (kX9_rest_r l D cy (g := g) (gth := gth) (gw := gw) (gB := gB) (gK := gK) (gU := gU) (gS := gS) (gbe := gbe) (gwo := gwo) (gta := gta) (gn := gn) (glr := glr) (glc := glc) (gti := gti) (ggo := ggo) (gR := gR) (gch := gch) (gD := gD) (gnr := gnr) (gnk := gnk) (gnc := gnc) (gng := gng) (gns := gns) (gna := gna) (gnb := gnb) (gnad := gnad) (gnan := gnan) (gnak := gnak) (gnaG := gnaG) (gnbd := gnbd) (gnbn := gnbn) (gnbk := gnbk) (gnbG := gnbG) hx_38) mX9_left_ u_1414 u_1416 u_35 0 rfl rfl 17 [0, 12, 13, 14, 15, 16] [1, 2, 3, 4, 5, 6, 7, 8, 9, 10, 11] rfl (by decide +kernel) rfl rfl rfl rfl (Nat.le_of_ble_eq_true rfl) (Nat.le_of_ble_eq_true rfl) (Nat.le_of_ble_eq_true rfl) (Nat.le_of_ble_eq_true rfl) (Nat.le_of_ble_eq_true rfl) dd_X9_meshTold_3.2.2.2.2.2.2.2.1 rfl (fun _ _ hp => hp.2) (fun v_39 hp_41 => ?_)
    obtain ⟨rfl, -⟩ := hp_41
    refine xr_st (st' := [.int x_38]) rfl ?_
    obtain rfl := Option.some.inj hR
    exact ret x_38 ⟨rfl, rfl⟩ (Nat.le_of_ble_eq_true rfl) (Nat.le_of_ble_eq_true rfl) dd_X9_meshTold_3.2.2.2.2.2.2.2.2.1
  replace hR := yf_f c_37 hR
  by_cases c_42 : i1 = 13
  · replace hR := yf_t c_42 hR
    refine xr_tableIn (off := 183) (tgt := 184) C dX9_meshTold_1 (by rw [c_42]; decide) (by rw [c_42]; decide) (by rw [c_42]; decide) rfl ?_
    refine xr_aload_n (n := 185) (j := 0) C dd_X9_meshTold_3.2.2.2.2.2.2.2.2.2.1 rfl rfl ?_
    refine xr_get (n := 188) C 0 rfl rfl 9 (by decide) in_X9 u_1246 rfl (v := .ref gn) rfl dd_X9_meshTold_3.2.2.2.2.2.2.2.2.2.2.1 rfl ?_
    refine xr_ifnonnull (tgt := 195) C dd_X9_meshTold_3.2.2.2.2.2.2.2.2.2.2.2.1 rfl ?_
    refine xr_aload_n (n := 196) (j := 0) C dd_X9_meshTold_3.2.2.2.2.2.2.2.2.2.2.2.2.2.2.1 rfl rfl ?_
    refine xr_get (n := 199) C 0 rfl rfl 12 (by decide) in_X9 u_1249 rfl (v := .int gti) rfl dd_X9_meshTold_3.2.2.2.2.2.2.2.2.2.2.2.2.2.2.2.1 rfl ?_
    obtain rfl := Option.some.inj hR
    exact ret gti ⟨rfl, rfl⟩ (Nat.le_of_ble_eq_true rfl) (Nat.le_of_ble_eq_true rfl) dd_X9_meshTold_4.1
  replace hR := yf_f c_42 hR
  by_cases c_43 : i1 = 14
  · replace hR := yf_t c_43 hR
    refine xr_tableIn (off := 199) (tgt := 200) C dX9_meshTold_1 (by rw [c_43]; decide) (by rw [c_43]; decide) (by rw [c_43]; decide) rfl ?_
    refine xr_aload_n (n := 201) (j := 0) C dd_X9_meshTold_4.2.1 rfl rfl ?_
    refine xr_get (n := 204) C 0 rfl rfl 14 (by decide) in_X9 u_1251 rfl (v := .ref gR) rfl dd_X9_meshTold_4.2.2.1 rfl ?_
    refine xr_alen (n := 205) C 10 0 rfl 3 rfl rfl dd_X9_meshTold_4.2.2.2.1 rfl ?_
    obtain rfl := Option.some.inj hR
    exact ret (nI gRn) ⟨rfl, rfl⟩ (Nat.le_of_ble_eq_true rfl) (Nat.le_of_ble_eq_true rfl) dd_X9_meshTold_4.2.2.2.2.1
  replace hR := yf_f c_43 hR
  refine xr_tableOut (tgt := 206) C dX9_meshTold_1 (ytab_out (fun k h1 h2 => by
    rcases (show k = 0 ∨ k = 1 ∨ k = 2 ∨ k = 3 ∨ k = 4 ∨ k = 5 ∨ k = 6 ∨ k = 7 ∨ k = 8 ∨ k = 9 ∨ k = 10 ∨ k = 11 ∨ k = 12 ∨ k = 13 ∨ k = 14 by omega) with rfl | rfl | rfl | rfl | rfl | rfl | rfl | rfl | rfl | rfl | rfl | rfl | rfl | rfl | rfl
    · exact c_1
    · exact c_2
    · exact c_3
    · exact c_4
    · exact c_5
    · exact c_10
    · exact c_15
    · exact c_20
    · exact c_25
    · exact c_30
    · exact c_31
    · exact c_32
    · exact c_37
    · exact c_42
    · exact c_43)) rfl ?_
  refine xr_aload_n (n := 207) (j := 0) C dd_X9_meshTold_4.2.2.2.2.2.1 rfl rfl ?_
  refine xr_get (n := 210) C 0 rfl rfl 14 (by decide) in_X9 u_1251 rfl (v := .ref gR) rfl dd_X9_meshTold_4.2.2.2.2.2.2.1 rfl ?_
  refine xr_alen (n := 211) C 10 0 rfl 3 rfl rfl dd_X9_meshTold_4.2.2.2.2.2.2.2.1 rfl ?_
  refine xr_if_ne (tgt := 218) (n := 214) C dd_X9_meshTold_4.2.2.2.2.2.2.2.2.1 rfl rfl (fun c_44 => ?_) (fun c_44 => ?_)
  · replace hR := yf_f c_44 hR
    refine xr_aload_n (n := 219) (j := 0) C dd_X9_meshTold_4.2.2.2.2.2.2.2.2.2.2.2.1 rfl rfl ?_
    refine xr_get (n := 222) C 0 rfl rfl 14 (by decide) in_X9 u_1251 rfl (v := .ref gR) rfl dd_X9_meshTold_4.2.2.2.2.2.2.2.2.2.2.2.2.1 rfl ?_
    refine xr_iconst (n := 223) (v := 0) C dd_X9_meshTold_4.2.2.2.2.2.2.2.2.2.2.2.2.2.1 rfl rfl ?_
    obtain ⟨g_45, hR⟩ := yf_g hR
    refine xr_aald (n := 224) C 10 0 rfl 3 rfl rfl g_45 rfl dd_X9_meshTold_4.2.2.2.2.2.2.2.2.2.2.2.2.2.2.1 rfl ?_
    refine xr_aleng (n := 225) C 11 1 rfl ((0 : Int32).toNatClampNeg) (ylt g_45) rfl dd_X9_meshTold_4.2.2.2.2.2.2.2.2.2.2.2.2.2.2.2.1 rfl ?_
    obtain rfl := Option.some.inj hR
    exact ret (nI gRk) ⟨rfl, rfl⟩ (Nat.le_of_ble_eq_true rfl) (Nat.le_of_ble_eq_true rfl) dd_X9_meshTold_5.1
  · replace hR := yf_t c_44 hR
    refine xr_iconst (n := 215) (v := 0) C dd_X9_meshTold_4.2.2.2.2.2.2.2.2.2.1 rfl rfl ?_
    refine xr_goto (tgt := 225) C dd_X9_meshTold_4.2.2.2.2.2.2.2.2.2.2.1 rfl ?_
    obtain rfl := Option.some.inj hR
    exact ret 0 ⟨rfl, rfl⟩ (Nat.le_of_ble_eq_true rfl) (Nat.le_of_ble_eq_true rfl) dd_X9_meshTold_5.1
