theorem u_1251 : Cond.fieldLink RX9 38 "PulsemeshModel" "results" "[[I" ∈ yU := yu_tables_1_5 235 (by decide +kernel) (by decide +kernel)
theorem u_1491 : Cond.code yX9_isNoResult cX9_isNoResult 3 (some .boolean) ∈ yU := yu_tables_1_6 235 (by decide +kernel) (by decide +kernel)
theorem u_1488 : Cond.methodLink RX9 228 yX9_isNoResult ∈ yU := yu_tables_1_6 232 (by decide +kernel) (by decide +kernel)
theorem u_1490 : Cond.instanceMethod yX9_isNoResult ∈ yU := yu_tables_1_6 234 (by decide +kernel) (by decide +kernel)
theorem u_45 : Cond.selects RX9 yX9_isNoResult yX9_isNoResult ∈ yU := yu 45 (by decide +kernel) (by decide +kernel)
theorem u_1487 : Cond.code yX9_bend cX9_bend 4 (some .int) ∈ yU := yu_tables_1_6 231 (by decide +kernel) (by decide +kernel)
theorem u_1503 : Cond.code yX9_off cX9_off 7 (some .int) ∈ yU := yu_tables_1_7 7 (by decide +kernel) (by decide +kernel)
theorem dd_X9_isNoResult_0 : dk_R cX9_isNoResult [(0, .iload_n 1, 1), (1, .iconst 0, 1), (2, .aload_n 0, 1), (3, .getfield 38, 3), (6, .arraylength, 1), (7, .iconst 1, 1), (8, .isub, 1), (9, .invokestatic 75, 3), (12, .ifCond .eq 20, 3), (15, .iload_n 2, 1), (16, .iconst 0, 1), (17, .aload_n 0, 1), (18, .getfield 38, 3), (21, .iconst 0, 1), (22, .aaload, 1), (23, .arraylength, 1)] := dk_use _ _ (by decide +kernel)
theorem dd_X9_isNoResult_1 : dk_R cX9_isNoResult [(24, .iconst 1, 1), (25, .isub, 1), (26, .invokestatic 75, 3), (29, .ifCond .ne 7, 3), (32, .iconst 1, 1), (33, .goto 4, 3), (36, .iconst 0, 1), (37, .ireturn, 1)] := dk_use _ _ (by decide +kernel)
def fX9_isNoResult_i (gRn : Nat) (gRk : Nat) (i1 : Int32) (i2 : Int32) : Option (Int32) := ((fX9_isIn i1 0 ((nI gRn) - 1)).bind fun x_1 => (if x_1 = 0 then some 1 else (if ¬ ((0 : Int32) < 0 ∨ gRn ≤ (0 : Int32).toNatClampNeg) then ((fX9_isIn i2 0 ((nI gRk) - 1)).bind fun x_7 => (if x_7 = 0 then some 1 else some 0)) else none)))
abbrev hX9_isNoResult : Cond := .code yX9_isNoResult cX9_isNoResult 3 (some .boolean)
theorem mX9_isNoResult : yM yX9_isNoResult hX9_isNoResult 2 := ⟨u_1491, u_64, by decide +kernel, by decide +kernel, by decide +kernel⟩
set_option maxHeartbeats 4000000 in
set_option maxRecDepth 100000 in
theorem kX9_isNoResult_i (l : Launch) (D : va_G) (cy : Nat → ClassId) (g : Nat) (gth : Int32) (gw : Nat) (gB : Nat) (gK : Nat) (gU : Nat) (gS : Nat) (gbe : Int32) (gwo : Int32) (gta : Int64) (glr : Int32) (glc : Int32) (gti : Int32) (ggo : Int32) (gR : Nat) (gch : Int32) (gD : Nat) (gRd : Nat → Nat) (gRn : Nat) (gRk : Nat) (gRG : Nat → Nat → Int32) (i1 : Int32) (i2 : Int32) {res : Int32} (hR : fX9_isNoResult_i gRn gRk i1 i2 = some res) : YM l D cy yX9_isNoResult hX9_isNoResult 2 0 0 [.ref g, .int i1, .int i2] [[(g, .inr (11, [.int gth, .ref gw, .ref gB, .ref gK, .ref gU, .ref gS, .int gbe, .int gwo, .long gta, .null, .int glr, .int glc, .int gti, .int ggo, .ref gR, .int gch, .ref gD]))], [(gR, .inl (cy 3, gRn, .inr (.inr (.inr (.inr (yad gRd))))))], xg_rows gRd gRn (cy 1) gRk gRG] (fun v u => v = some (.int res) ∧ u = [[(g, .inr (11, [.int gth, .ref gw, .ref gB, .ref gK, .ref gU, .ref gS, .int gbe, .int gwo, .long gta, .null, .int glr, .int glc, .int gti, .int ggo, .ref gR, .int gch, .ref gD]))], [(gR, .inl (cy 3, gRn, .inr (.inr (.inr (.inr (yad gRd))))))], xg_rows gRd gRn (cy 1) gRk gRG]) := by
  unfold fX9_isNoResult_i at hR
  refine YM.ofZ (cc := cX9_isNoResult) (maxL := 3) (ret := (some .boolean)) (by decide +kernel) rfl (Nat.le_of_ble_eq_true rfl) [(0, .ref g), (1, .int i1), (2, .int i2)] rfl .boolean rfl (fun p e s m args below meth c A H0 Q C hnm ret => ?_)
  refine xr_iload_n (n := 1) (j := 1) C dd_X9_isNoResult_0.1 rfl rfl ?_
  refine xr_iconst (n := 2) (v := 0) C dd_X9_isNoResult_0.2.1 rfl rfl ?_
  refine xr_aload_n (n := 3) (j := 0) C dd_X9_isNoResult_0.2.2.1 rfl rfl ?_
  refine xr_get (n := 6) C 0 rfl rfl 14 (by decide) in_X9 u_1251 rfl (v := .ref gR) rfl dd_X9_isNoResult_0.2.2.2.1 rfl ?_
  refine xr_alen (n := 7) C 1 0 rfl 3 rfl rfl dd_X9_isNoResult_0.2.2.2.2.1 rfl ?_
  refine xr_iconst (n := 8) (v := 1) C dd_X9_isNoResult_0.2.2.2.2.2.1 rfl rfl ?_
  refine xr_isub (n := 9) C dd_X9_isNoResult_0.2.2.2.2.2.2.1 rfl ?_
  obtain ⟨x_1, hx_1, hR⟩ := yf_b hR
  refine xr_callSp (n := 12) (As := [.int i1, .int 0, .int ((nI gRn) - 1)]) (rest := []) C (kX9_isIn l D cy (i1 := i1) (i2 := 0) (i3 := (nI gRn) - 1) hx_1) mX9_isIn u_1298 u_1299 3 [] [0, 1, 2] rfl (by decide +kernel) rfl rfl rfl rfl (Nat.le_of_ble_eq_true rfl) (Nat.le_of_ble_eq_true rfl) (Nat.le_of_ble_eq_true rfl) (Nat.le_of_ble_eq_true rfl) (Nat.le_of_ble_eq_true rfl) dd_X9_isNoResult_0.2.2.2.2.2.2.2.1 rfl (fun _ _ hp => hp.2) (fun v_2 hp_4 => ?_)
  obtain ⟨rfl, -⟩ := hp_4
  refine xr_st (st' := [.int x_1]) rfl ?_
  refine xr_if_eq (tgt := 32) (n := 15) C dd_X9_isNoResult_0.2.2.2.2.2.2.2.2.1 rfl rfl (fun c_5 => ?_) (fun c_5 => ?_)
  · replace hR := yf_t c_5 hR
    refine xr_iconst (n := 33) (v := 1) C dd_X9_isNoResult_1.2.2.2.2.1 rfl rfl ?_
    refine xr_goto (tgt := 37) C dd_X9_isNoResult_1.2.2.2.2.2.1 rfl ?_
    obtain rfl := Option.some.inj hR
    exact ret 1 (by decide) ⟨rfl, rfl⟩ (Nat.le_of_ble_eq_true rfl) (Nat.le_of_ble_eq_true rfl) dd_X9_isNoResult_1.2.2.2.2.2.2.2.1
  · replace hR := yf_f c_5 hR
    refine xr_iload_n (n := 16) (j := 2) C dd_X9_isNoResult_0.2.2.2.2.2.2.2.2.2.1 rfl rfl ?_
    refine xr_iconst (n := 17) (v := 0) C dd_X9_isNoResult_0.2.2.2.2.2.2.2.2.2.2.1 rfl rfl ?_
    refine xr_aload_n (n := 18) (j := 0) C dd_X9_isNoResult_0.2.2.2.2.2.2.2.2.2.2.2.1 rfl rfl ?_
    refine xr_get (n := 21) C 0 rfl rfl 14 (by decide) in_X9 u_1251 rfl (v := .ref gR) rfl dd_X9_isNoResult_0.2.2.2.2.2.2.2.2.2.2.2.2.1 rfl ?_
    refine xr_iconst (n := 22) (v := 0) C dd_X9_isNoResult_0.2.2.2.2.2.2.2.2.2.2.2.2.2.1 rfl rfl ?_
    obtain ⟨g_6, hR⟩ := yf_g hR
    refine xr_aald (n := 23) C 1 0 rfl 3 rfl rfl g_6 rfl dd_X9_isNoResult_0.2.2.2.2.2.2.2.2.2.2.2.2.2.2.1 rfl ?_
    refine xr_aleng (n := 24) C 2 1 rfl ((0 : Int32).toNatClampNeg) (ylt g_6) rfl dd_X9_isNoResult_0.2.2.2.2.2.2.2.2.2.2.2.2.2.2.2.1 rfl ?_
    refine xr_iconst (n := 25) (v := 1) C dd_X9_isNoResult_1.1 rfl rfl ?_
    refine xr_isub (n := 26) C dd_X9_isNoResult_1.2.1 rfl ?_
    obtain ⟨x_7, hx_7, hR⟩ := yf_b hR
    refine xr_callSp (n := 29) (As := [.int i2, .int 0, .int ((nI gRk) - 1)]) (rest := []) C (kX9_isIn l D cy (i1 := i2) (i2 := 0) (i3 := (nI gRk) - 1) hx_7) mX9_isIn u_1298 u_1299 3 [] [0, 1, 2] rfl (by decide +kernel) rfl rfl rfl rfl (Nat.le_of_ble_eq_true rfl) (Nat.le_of_ble_eq_true rfl) (Nat.le_of_ble_eq_true rfl) (Nat.le_of_ble_eq_true rfl) (Nat.le_of_ble_eq_true rfl) dd_X9_isNoResult_1.2.2.1 rfl (fun _ _ hp => hp.2) (fun v_8 hp_10 => ?_)
    obtain ⟨rfl, -⟩ := hp_10
    refine xr_st (st' := [.int x_7]) rfl ?_
    refine xr_if_ne (tgt := 36) (n := 32) C dd_X9_isNoResult_1.2.2.2.1 rfl rfl (fun c_11 => ?_) (fun c_11 => ?_)
    · replace hR := yf_f c_11 hR
      refine xr_iconst (n := 37) (v := 0) C dd_X9_isNoResult_1.2.2.2.2.2.2.1 rfl rfl ?_
      obtain rfl := Option.some.inj hR
      exact ret 0 (by decide) ⟨rfl, rfl⟩ (Nat.le_of_ble_eq_true rfl) (Nat.le_of_ble_eq_true rfl) dd_X9_isNoResult_1.2.2.2.2.2.2.2.1
    · replace hR := yf_t c_11 hR
      refine xr_iconst (n := 33) (v := 1) C dd_X9_isNoResult_1.2.2.2.2.1 rfl rfl ?_
      refine xr_goto (tgt := 37) C dd_X9_isNoResult_1.2.2.2.2.2.1 rfl ?_
      obtain rfl := Option.some.inj hR
      exact ret 1 (by decide) ⟨rfl, rfl⟩ (Nat.le_of_ble_eq_true rfl) (Nat.le_of_ble_eq_true rfl) dd_X9_isNoResult_1.2.2.2.2.2.2.2.1
def fX9_isNoResult_r (gRn : Nat) (gRk : Nat) (i1 : Int32) (i2 : Int32) : Option (Int32) := ((fX9_isIn i1 0 ((nI gRn) - 1)).bind fun x_1 => (if x_1 = 0 then some 1 else (if ¬ ((0 : Int32) < 0 ∨ gRn ≤ (0 : Int32).toNatClampNeg) then ((fX9_isIn i2 0 ((nI gRk) - 1)).bind fun x_7 => (if x_7 = 0 then some 1 else some 0)) else none)))
set_option maxHeartbeats 4000000 in
set_option maxRecDepth 100000 in
theorem kX9_isNoResult_r (l : Launch) (D : va_G) (cy : Nat → ClassId) (g : Nat) (gth : Int32) (gw : Nat) (gB : Nat) (gK : Nat) (gU : Nat) (gS : Nat) (gbe : Int32) (gwo : Int32) (gta : Int64) (gn : Nat) (glr : Int32) (glc : Int32) (gti : Int32) (ggo : Int32) (gR : Nat) (gch : Int32) (gD : Nat) (gRd : Nat → Nat) (gRn : Nat) (gRk : Nat) (gRG : Nat → Nat → Int32) (i1 : Int32) (i2 : Int32) {res : Int32} (hR : fX9_isNoResult_r gRn gRk i1 i2 = some res) : YM l D cy yX9_isNoResult hX9_isNoResult 2 0 0 [.ref g, .int i1, .int i2] [[(g, .inr (11, [.int gth, .ref gw, .ref gB, .ref gK, .ref gU, .ref gS, .int gbe, .int gwo, .long gta, .ref gn, .int glr, .int glc, .int gti, .int ggo, .ref gR, .int gch, .ref gD]))], [(gR, .inl (cy 3, gRn, .inr (.inr (.inr (.inr (yad gRd))))))], xg_rows gRd gRn (cy 1) gRk gRG] (fun v u => v = some (.int res) ∧ u = [[(g, .inr (11, [.int gth, .ref gw, .ref gB, .ref gK, .ref gU, .ref gS, .int gbe, .int gwo, .long gta, .ref gn, .int glr, .int glc, .int gti, .int ggo, .ref gR, .int gch, .ref gD]))], [(gR, .inl (cy 3, gRn, .inr (.inr (.inr (.inr (yad gRd))))))], xg_rows gRd gRn (cy 1) gRk gRG]) := by
  unfold fX9_isNoResult_r at hR
  refine YM.ofZ (cc := cX9_isNoResult) (maxL := 3) (ret := (some .boolean)) (by decide +kernel) rfl (Nat.le_of_ble_eq_true rfl) [(0, .ref g), (1, .int i1), (2, .int i2)] rfl .boolean rfl (fun p e s m args below meth c A H0 Q C hnm ret => ?_)
  refine xr_iload_n (n := 1) (j := 1) C dd_X9_isNoResult_0.1 rfl rfl ?_
  refine xr_iconst (n := 2) (v := 0) C dd_X9_isNoResult_0.2.1 rfl rfl ?_
  refine xr_aload_n (n := 3) (j := 0) C dd_X9_isNoResult_0.2.2.1 rfl rfl ?_
  refine xr_get (n := 6) C 0 rfl rfl 14 (by decide) in_X9 u_1251 rfl (v := .ref gR) rfl dd_X9_isNoResult_0.2.2.2.1 rfl ?_
  refine xr_alen (n := 7) C 1 0 rfl 3 rfl rfl dd_X9_isNoResult_0.2.2.2.2.1 rfl ?_
  refine xr_iconst (n := 8) (v := 1) C dd_X9_isNoResult_0.2.2.2.2.2.1 rfl rfl ?_
  refine xr_isub (n := 9) C dd_X9_isNoResult_0.2.2.2.2.2.2.1 rfl ?_
  obtain ⟨x_1, hx_1, hR⟩ := yf_b hR
  refine xr_callSp (n := 12) (As := [.int i1, .int 0, .int ((nI gRn) - 1)]) (rest := []) C (kX9_isIn l D cy (i1 := i1) (i2 := 0) (i3 := (nI gRn) - 1) hx_1) mX9_isIn u_1298 u_1299 3 [] [0, 1, 2] rfl (by decide +kernel) rfl rfl rfl rfl (Nat.le_of_ble_eq_true rfl) (Nat.le_of_ble_eq_true rfl) (Nat.le_of_ble_eq_true rfl) (Nat.le_of_ble_eq_true rfl) (Nat.le_of_ble_eq_true rfl) dd_X9_isNoResult_0.2.2.2.2.2.2.2.1 rfl (fun _ _ hp => hp.2) (fun v_2 hp_4 => ?_)
  obtain ⟨rfl, -⟩ := hp_4
  refine xr_st (st' := [.int x_1]) rfl ?_
  refine xr_if_eq (tgt := 32) (n := 15) C dd_X9_isNoResult_0.2.2.2.2.2.2.2.2.1 rfl rfl (fun c_5 => ?_) (fun c_5 => ?_)
  · replace hR := yf_t c_5 hR
    refine xr_iconst (n := 33) (v := 1) C dd_X9_isNoResult_1.2.2.2.2.1 rfl rfl ?_
    refine xr_goto (tgt := 37) C dd_X9_isNoResult_1.2.2.2.2.2.1 rfl ?_
    obtain rfl := Option.some.inj hR
    exact ret 1 (by decide) ⟨rfl, rfl⟩ (Nat.le_of_ble_eq_true rfl) (Nat.le_of_ble_eq_true rfl) dd_X9_isNoResult_1.2.2.2.2.2.2.2.1
  · replace hR := yf_f c_5 hR
    refine xr_iload_n (n := 16) (j := 2) C dd_X9_isNoResult_0.2.2.2.2.2.2.2.2.2.1 rfl rfl ?_
    refine xr_iconst (n := 17) (v := 0) C dd_X9_isNoResult_0.2.2.2.2.2.2.2.2.2.2.1 rfl rfl ?_
    refine xr_aload_n (n := 18) (j := 0) C dd_X9_isNoResult_0.2.2.2.2.2.2.2.2.2.2.2.1 rfl rfl ?_
    refine xr_get (n := 21) C 0 rfl rfl 14 (by decide) in_X9 u_1251 rfl (v := .ref gR) rfl dd_X9_isNoResult_0.2.2.2.2.2.2.2.2.2.2.2.2.1 rfl ?_
    refine xr_iconst (n := 22) (v := 0) C dd_X9_isNoResult_0.2.2.2.2.2.2.2.2.2.2.2.2.2.1 rfl rfl ?_
    obtain ⟨g_6, hR⟩ := yf_g hR
    refine xr_aald (n := 23) C 1 0 rfl 3 rfl rfl g_6 rfl dd_X9_isNoResult_0.2.2.2.2.2.2.2.2.2.2.2.2.2.2.1 rfl ?_
    refine xr_aleng (n := 24) C 2 1 rfl ((0 : Int32).toNatClampNeg) (ylt g_6) rfl dd_X9_isNoResult_0.2.2.2.2.2.2.2.2.2.2.2.2.2.2.2.1 rfl ?_
    refine xr_iconst (n := 25) (v := 1) C dd_X9_isNoResult_1.1 rfl rfl ?_
    refine xr_isub (n := 26) C dd_X9_isNoResult_1.2.1 rfl ?_
    obtain ⟨x_7, hx_7, hR⟩ := yf_b hR
    refine xr_callSp (n := 29) (As := [.int i2, .int 0, .int ((nI gRk) - 1)]) (rest := []) C (kX9_isIn l D cy (i1 := i2) (i2 := 0) (i3 := (nI gRk) - 1) hx_7) mX9_isIn u_1298 u_1299 3 [] [0, 1, 2] rfl (by decide +kernel) rfl rfl rfl rfl (Nat.le_of_ble_eq_true rfl) (Nat.le_of_ble_eq_true rfl) (Nat.le_of_ble_eq_true rfl) (Nat.le_of_ble_eq_true rfl) (Nat.le_of_ble_eq_true rfl) dd_X9_isNoResult_1.2.2.1 rfl (fun _ _ hp => hp.2) (fun v_8 hp_10 => ?_)
    obtain ⟨rfl, -⟩ := hp_10
    refine xr_st (st' := [.int x_7]) rfl ?_
    refine xr_if_ne (tgt := 36) (n := 32) C dd_X9_isNoResult_1.2.2.2.1 rfl rfl (fun c_11 => ?_) (fun c_11 => ?_)
    · replace hR := yf_f c_11 hR
      refine xr_iconst (n := 37) (v := 0) C dd_X9_isNoResult_1.2.2.2.2.2.2.1 rfl rfl ?_
      obtain rfl := Option.some.inj hR
      exact ret 0 (by decide) ⟨rfl, rfl⟩ (Nat.le_of_ble_eq_true rfl) (Nat.le_of_ble_eq_true rfl) dd_X9_isNoResult_1.2.2.2.2.2.2.2.1
    · replace hR := yf_t c_11 hR
      refine xr_iconst (n := 33) (v := 1) C dd_X9_isNoResult_1.2.2.2.2.1 rfl rfl ?_
      refine xr_goto (tgt := 37) C dd_X9_isNoResult_1.2.2.2.2.2.1 rfl ?_
      obtain rfl := Option.some.inj hR
      exact ret 1 (by decide) ⟨rfl, rfl⟩ (Nat.le_of_ble_eq_true rfl) (Nat.le_of_ble_eq_true rfl) dd_X9_isNoResult_1.2.2.2.2.2.2.2.1
theorem dd_X9_bend_0 : dk_R cX9_bend [(0, .aload_n 0, 1), (1, .aload_n 0, 1), (2, .iload_n 1, 1), (3, .iload_n 2, 1), (4, .invokevirtual 228, 3), (7, .iconst 1, 1), (8, .invokevirtual 79, 3), (11, .ifCond .ne 29, 3), (14, .aload_n 0, 1), (15, .iload_n 3, 1), (16, .sipush (-999), 3), (19, .sipush 999, 3), (22, .invokestatic 75, 3), (25, .ifCond .ne 7, 3), (28, .iconst 1, 1), (29, .goto 4, 3)] := dk_use _ _ (by decide +kernel)
theorem dd_X9_bend_1 : dk_R cX9_bend [(32, .iconst 0, 1), (33, .iconst 2, 1), (34, .invokevirtual 67, 3), (37, .ifCond .eq 5, 3), (40, .iconst 0, 1), (41, .ireturn, 1), (42, .aload_n 0, 1), (43, .getfield 38, 3), (46, .iload_n 1, 1), (47, .aaload, 1), (48, .iload_n 2, 1), (49, .dup2, 1), (50, .iaload, 1), (51, .iload_n 3, 1), (52, .iadd, 1), (53, .iastore, 1)] := dk_use _ _ (by decide +kernel)
theorem dd_X9_bend_2 : dk_R cX9_bend [(54, .aload_n 0, 1), (55, .getfield 38, 3), (58, .iload_n 1, 1), (59, .aaload, 1), (60, .iload_n 2, 1), (61, .iaload, 1), (62, .ireturn, 1)] := dk_use _ _ (by decide +kernel)
def fX9_bend_i (gRn : Nat) (gRk : Nat) (gRG : Nat → Nat → Int32) (i1 : Int32) (i2 : Int32) (i3 : Int32) : Option (Int32 × Int32 × (Nat → Nat → Int32)) := ((fX9_isNoResult_i gRn gRk i1 i2).bind fun x_1 => ((fX9_start_i x_1 1).bind fun x_5 => (if x_5.1 = 0 then ((fX9_isIn i3 (-999) 999).bind fun x_10 => ((((if x_10 = 0 then some 1 else some 0) : Option (Int32))).bind fun r_15 => ((fX9_refuse_i x_5.2 r_15 2).bind fun x_16 => (if x_16.1 = 0 then (if ¬ (i1 < 0 ∨ gRn ≤ i1.toNatClampNeg) then (if ¬ (i2 < 0 ∨ gRk ≤ i2.toNatClampNeg) then (if ¬ (i2 < 0 ∨ gRk ≤ i2.toNatClampNeg) then (if ¬ (i1 < 0 ∨ gRn ≤ i1.toNatClampNeg) then (if ¬ (i2 < 0 ∨ gRk ≤ i2.toNatClampNeg) then some ((upg gRG i1.toNatClampNeg i2.toNatClampNeg ((gRG i1.toNatClampNeg i2.toNatClampNeg) + i3)) i1.toNatClampNeg i2.toNatClampNeg, x_16.2, upg gRG i1.toNatClampNeg i2.toNatClampNeg ((gRG i1.toNatClampNeg i2.toNatClampNeg) + i3)) else none) else none) else none) else none) else none) else some (0, x_16.2, gRG))))) else some (0, x_5.2, gRG))))
abbrev hX9_bend : Cond := .code yX9_bend cX9_bend 4 (some .int)
theorem mX9_bend : yM yX9_bend hX9_bend 3 := ⟨u_1487, u_64, by decide +kernel, by decide +kernel, by decide +kernel⟩
set_option maxHeartbeats 4000000 in
set_option maxRecDepth 100000 in
theorem kX9_bend_i (l : Launch) (D : va_G) (cy : Nat → ClassId) (g : Nat) (gth : Int32) (gw : Nat) (gB : Nat) (gK : Nat) (gU : Nat) (gS : Nat) (gbe : Int32) (gwo : Int32) (gta : Int64) (glr : Int32) (glc : Int32) (gti : Int32) (ggo : Int32) (gR : Nat) (gch : Int32) (gD : Nat) (gRd : Nat → Nat) (gRn : Nat) (gRk : Nat) (gRG : Nat → Nat → Int32) (i1 : Int32) (i2 : Int32) (i3 : Int32) {res : Int32 × Int32 × (Nat → Nat → Int32)} (hR : fX9_bend_i gRn gRk gRG i1 i2 i3 = some res) : YM l D cy yX9_bend hX9_bend 3 0 0 [.ref g, .int i1, .int i2, .int i3] [[(g, .inr (11, [.int gth, .ref gw, .ref gB, .ref gK, .ref gU, .ref gS, .int gbe, .int gwo, .long gta, .null, .int glr, .int glc, .int gti, .int ggo, .ref gR, .int gch, .ref gD]))], [(gR, .inl (cy 3, gRn, .inr (.inr (.inr (.inr (yad gRd))))))], xg_rows gRd gRn (cy 1) gRk gRG] (fun v u => v = some (.int res.1) ∧ u = [[(g, .inr (11, [.int res.2.1, .ref gw, .ref gB, .ref gK, .ref gU, .ref gS, .int gbe, .int gwo, .long gta, .null, .int glr, .int glc, .int gti, .int ggo, .ref gR, .int gch, .ref gD]))], [(gR, .inl (cy 3, gRn, .inr (.inr (.inr (.inr (yad gRd))))))], xg_rows gRd gRn (cy 1) gRk res.2.2]) := by
  unfold fX9_bend_i at hR
  refine YM.ofI (cc := cX9_bend) (maxL := 4) (ret := (some .int)) (by decide +kernel) rfl (Nat.le_of_ble_eq_true rfl) [(0, .ref g), (1, .int i1), (2, .int i2), (3, .int i3)] rfl rfl (fun p e s m args below meth c A H0 Q C hnm ret => ?_)
  refine xr_aload_n (n := 1) (j := 0) C dd_X9_bend_0.1 rfl rfl ?_
  refine xr_aload_n (n := 2) (j := 0) C dd_X9_bend_0.2.1 rfl rfl ?_
  refine xr_iload_n (n := 3) (j := 1) C dd_X9_bend_0.2.2.1 rfl rfl ?_
  refine xr_iload_n (n := 4) (j := 2) C dd_X9_bend_0.2.2.2.1 rfl rfl ?_
  obtain ⟨x_1, hx_1, hR⟩ := yf_b hR
  refine xr_callVp (n := 7) (As := [.int i1, .int i2]) (rest := [.ref g]) C (kX9_isNoResult_i l D cy (g := g) (gth := gth) (gw := gw) (gB := gB) (gK := gK) (gU := gU) (gS := gS) (gbe := gbe) (gwo := gwo) (gta := gta) (glr := glr) (glc := glc) (gti := gti) (ggo := ggo) (gR := gR) (gch := gch) (gD := gD) (gRd := gRd) (gRn := gRn) (gRk := gRk) (gRG := gRG) (i1 := i1) (i2 := i2) hx_1) mX9_isNoResult u_1488 u_1490 u_45 0 rfl rfl 3 [0, 1, 2] [] rfl (by decide +kernel) rfl rfl rfl rfl (Nat.le_of_ble_eq_true rfl) (Nat.le_of_ble_eq_true rfl) (Nat.le_of_ble_eq_true rfl) (Nat.le_of_ble_eq_true rfl) (Nat.le_of_ble_eq_true rfl) dd_X9_bend_0.2.2.2.2.1 rfl (fun _ _ hp => hp.2) (fun v_2 hp_4 => ?_)
  obtain ⟨rfl, -⟩ := hp_4
  refine xr_st (st' := [.int x_1, .ref g]) rfl ?_
  refine xr_iconst (n := 8) (v := 1) C dd_X9_bend_0.2.2.2.2.2.1 rfl rfl ?_
  obtain ⟨x_5, hx_5, hR⟩ := yf_b hR
  refine xr_callV (n := 11) (As := [.int x_1, .int 1]) (rest := []) C (kX9_start_i l D cy (g := g) (gth := gth) (gw := gw) (gB := gB) (gK := gK) (gU := gU) (gS := gS) (gbe := gbe) (gwo := gwo) (gta := gta) (glr := glr) (glc := glc) (gti := gti) (ggo := ggo) (gR := gR) (gch := gch) (gD := gD) (i1 := x_1) (i2 := 1) hx_5) mX9_start u_1301 u_1303 u_29 0 rfl rfl 3 [0] [1, 2] rfl (by decide +kernel) rfl rfl rfl rfl (Nat.le_of_ble_eq_true rfl) (Nat.le_of_ble_eq_true rfl) (Nat.le_of_ble_eq_true rfl) (Nat.le_of_ble_eq_true rfl) (Nat.le_of_ble_eq_true rfl) dd_X9_bend_0.2.2.2.2.2.2.1 rfl (fun v_6 u_7 hp_8 => ?_)
  obtain ⟨rfl, rfl⟩ := hp_8
  refine xr_perm C 3 [0, 1, 2] [] [[(g, .inr (11, [.int x_5.2, .ref gw, .ref gB, .ref gK, .ref gU, .ref gS, .int gbe, .int gwo, .long gta, .null, .int glr, .int glc, .int gti, .int ggo, .ref gR, .int gch, .ref gD]))], [(gR, .inl (cy 3, gRn, .inr (.inr (.inr (.inr (yad gRd))))))], xg_rows gRd gRn (cy 1) gRk gRG] rfl (by decide +kernel) rfl ?_
  refine xr_st (st' := [.int x_5.1]) rfl ?_
  refine xr_if_ne (tgt := 40) (n := 14) C dd_X9_bend_0.2.2.2.2.2.2.2.1 rfl rfl (fun c_9 => ?_) (fun c_9 => ?_)
  · replace hR := yf_f c_9 hR
    refine xr_iconst (n := 41) (v := 0) C dd_X9_bend_1.2.2.2.2.1 rfl rfl ?_
    obtain rfl := Option.some.inj hR
    exact ret 0 ⟨rfl, rfl⟩ (Nat.le_of_ble_eq_true rfl) (Nat.le_of_ble_eq_true rfl) dd_X9_bend_1.2.2.2.2.2.1
  · replace hR := yf_t c_9 hR
    refine xr_aload_n (n := 15) (j := 0) C dd_X9_bend_0.2.2.2.2.2.2.2.2.1 rfl rfl ?_
    refine xr_iload_n (n := 16) (j := 3) C dd_X9_bend_0.2.2.2.2.2.2.2.2.2.1 rfl rfl ?_
    refine xr_sipush (n := 19) (v := -999) C dd_X9_bend_0.2.2.2.2.2.2.2.2.2.2.1 rfl rfl ?_
    refine xr_sipush (n := 22) (v := 999) C dd_X9_bend_0.2.2.2.2.2.2.2.2.2.2.2.1 rfl rfl ?_
    obtain ⟨x_10, hx_10, hR⟩ := yf_b hR
    refine xr_callSp (n := 25) (As := [.int i3, .int (-999), .int 999]) (rest := [.ref g]) C (kX9_isIn l D cy (i1 := i3) (i2 := -999) (i3 := 999) hx_10) mX9_isIn u_1298 u_1299 3 [] [0, 1, 2] rfl (by decide +kernel) rfl rfl rfl rfl (Nat.le_of_ble_eq_true rfl) (Nat.le_of_ble_eq_true rfl) (Nat.le_of_ble_eq_true rfl) (Nat.le_of_ble_eq_true rfl) (Nat.le_of_ble_eq_true rfl) dd_X9_bend_0.2.2.2.2.2.2.2.2.2.2.2.2.1 rfl (fun _ _ hp => hp.2) (fun v_11 hp_13 => ?_)
    obtain ⟨rfl, -⟩ := hp_13
    refine xr_st (st' := [.int x_10, .ref g]) rfl ?_
    obtain ⟨r_15, hE_15, hR⟩ := yf_b hR
    have J_15 : X p l e (yR 3 0 0) s m args below meth c D A H0 4 Q [[(g, .inr (11, [.int x_5.2, .ref gw, .ref gB, .ref gK, .ref gU, .ref gS, .int gbe, .int gwo, .long gta, .null, .int glr, .int glc, .int gti, .int ggo, .ref gR, .int gch, .ref gD]))], [(gR, .inl (cy 3, gRn, .inr (.inr (.inr (.inr (yad gRd))))))], xg_rows gRd gRn (cy 1) gRk gRG] 0 0 [(0, .ref g), (1, .int i1), (2, .int i2), (3, .int i3)] 33 [.int r_15, .ref g] := by
      refine xr_iconst (n := 34) (v := 2) C dd_X9_bend_1.2.1 rfl rfl ?_
      obtain ⟨x_16, hx_16, hR⟩ := yf_b hR
      refine xr_callV (n := 37) (As := [.int r_15, .int 2]) (rest := []) C (kX9_refuse_i l D cy (g := g) (gth := x_5.2) (gw := gw) (gB := gB) (gK := gK) (gU := gU) (gS := gS) (gbe := gbe) (gwo := gwo) (gta := gta) (glr := glr) (glc := glc) (gti := gti) (ggo := ggo) (gR := gR) (gch := gch) (gD := gD) (i1 := r_15) (i2 := 2) hx_16) mX9_refuse u_1305 u_1307 u_30 0 rfl rfl 3 [0] [1, 2] rfl (by decide +kernel) rfl rfl rfl rfl (Nat.le_of_ble_eq_true rfl) (Nat.le_of_ble_eq_true rfl) (Nat.le_of_ble_eq_true rfl) (Nat.le_of_ble_eq_true rfl) (Nat.le_of_ble_eq_true rfl) dd_X9_bend_1.2.2.1 rfl (fun v_17 u_18 hp_19 => ?_)
      obtain ⟨rfl, rfl⟩ := hp_19
      refine xr_perm C 3 [0, 1, 2] [] [[(g, .inr (11, [.int x_16.2, .ref gw, .ref gB, .ref gK, .ref gU, .ref gS, .int gbe, .int gwo, .long gta, .null, .int glr, .int glc, .int gti, .int ggo, .ref gR, .int gch, .ref gD]))], [(gR, .inl (cy 3, gRn, .inr (.inr (.inr (.inr (yad gRd))))))], xg_rows gRd gRn (cy 1) gRk gRG] rfl (by decide +kernel) rfl ?_
      refine xr_st (st' := [.int x_16.1]) rfl ?_
      refine xr_if_eq (tgt := 42) (n := 40) C dd_X9_bend_1.2.2.2.1 rfl rfl (fun c_20 => ?_) (fun c_20 => ?_)
      · replace hR := yf_t c_20 hR
        refine xr_aload_n (n := 43) (j := 0) C dd_X9_bend_1.2.2.2.2.2.2.1 rfl rfl ?_
        refine xr_get (n := 46) C 0 rfl rfl 14 (by decide) in_X9 u_1251 rfl (v := .ref gR) rfl dd_X9_bend_1.2.2.2.2.2.2.2.1 rfl ?_
        refine xr_iload_n (n := 47) (j := 1) C dd_X9_bend_1.2.2.2.2.2.2.2.2.1 rfl rfl ?_
        obtain ⟨g_21, hR⟩ := yf_g hR
        refine xr_aald (n := 48) C 1 0 rfl 3 rfl rfl g_21 rfl dd_X9_bend_1.2.2.2.2.2.2.2.2.2.1 rfl ?_
        refine xr_iload_n (n := 49) (j := 2) C dd_X9_bend_1.2.2.2.2.2.2.2.2.2.2.1 rfl rfl ?_
        refine xr_dup2 (n := 50) C dd_X9_bend_1.2.2.2.2.2.2.2.2.2.2.2.1 rfl rfl rfl ?_
        obtain ⟨g_22, hR⟩ := yf_g hR
        refine xr_ialdg (n := 51) C 2 rfl i1.toNatClampNeg (ylt g_21) g_22 dd_X9_bend_1.2.2.2.2.2.2.2.2.2.2.2.2.1 rfl ?_
        refine xr_iload_n (n := 52) (j := 3) C dd_X9_bend_1.2.2.2.2.2.2.2.2.2.2.2.2.2.1 rfl rfl ?_
        refine xr_iadd (n := 53) C dd_X9_bend_1.2.2.2.2.2.2.2.2.2.2.2.2.2.2.1 rfl ?_
        obtain ⟨g_23, hR⟩ := yf_g hR
        refine xr_iastg (n := 54) C 2 rfl i1.toNatClampNeg (ylt g_21) g_23 [[(g, .inr (11, [.int x_16.2, .ref gw, .ref gB, .ref gK, .ref gU, .ref gS, .int gbe, .int gwo, .long gta, .null, .int glr, .int glc, .int gti, .int ggo, .ref gR, .int gch, .ref gD]))], [(gR, .inl (cy 3, gRn, .inr (.inr (.inr (.inr (yad gRd))))))], xg_rows gRd gRn (cy 1) gRk (upg gRG i1.toNatClampNeg i2.toNatClampNeg ((gRG i1.toNatClampNeg i2.toNatClampNeg) + i3))] rfl dd_X9_bend_1.2.2.2.2.2.2.2.2.2.2.2.2.2.2.2.1 rfl ?_
        refine xr_aload_n (n := 55) (j := 0) C dd_X9_bend_2.1 rfl rfl ?_
        refine xr_get (n := 58) C 0 rfl rfl 14 (by decide) in_X9 u_1251 rfl (v := .ref gR) rfl dd_X9_bend_2.2.1 rfl ?_
        refine xr_iload_n (n := 59) (j := 1) C dd_X9_bend_2.2.2.1 rfl rfl ?_
        obtain ⟨g_24, hR⟩ := yf_g hR
        refine xr_aald (n := 60) C 1 0 rfl 3 rfl rfl g_24 rfl dd_X9_bend_2.2.2.2.1 rfl ?_
        refine xr_iload_n (n := 61) (j := 2) C dd_X9_bend_2.2.2.2.2.1 rfl rfl ?_
        obtain ⟨g_25, hR⟩ := yf_g hR
        refine xr_ialdg (n := 62) C 2 rfl i1.toNatClampNeg (ylt g_24) g_25 dd_X9_bend_2.2.2.2.2.2.1 rfl ?_
        obtain rfl := Option.some.inj hR
        exact ret ((upg gRG i1.toNatClampNeg i2.toNatClampNeg ((gRG i1.toNatClampNeg i2.toNatClampNeg) + i3)) i1.toNatClampNeg i2.toNatClampNeg) ⟨rfl, rfl⟩ (Nat.le_of_ble_eq_true rfl) (Nat.le_of_ble_eq_true rfl) dd_X9_bend_2.2.2.2.2.2.2.1
      · replace hR := yf_f c_20 hR
        refine xr_iconst (n := 41) (v := 0) C dd_X9_bend_1.2.2.2.2.1 rfl rfl ?_
        obtain rfl := Option.some.inj hR
        exact ret 0 ⟨rfl, rfl⟩ (Nat.le_of_ble_eq_true rfl) (Nat.le_of_ble_eq_true rfl) dd_X9_bend_1.2.2.2.2.2.1
    refine xr_if_ne (tgt := 32) (n := 28) C dd_X9_bend_0.2.2.2.2.2.2.2.2.2.2.2.2.2.1 rfl rfl (fun c_26 => ?_) (fun c_26 => ?_)
    · replace hE_15 := yf_f c_26 hE_15
      refine xr_iconst (n := 33) (v := 0) C dd_X9_bend_1.1 rfl rfl ?_
      have e_27 := Option.some.inj hE_15
      subst e_27
      exact J_15
    · replace hE_15 := yf_t c_26 hE_15
      refine xr_iconst (n := 29) (v := 1) C dd_X9_bend_0.2.2.2.2.2.2.2.2.2.2.2.2.2.2.1 rfl rfl ?_
      refine xr_goto (tgt := 33) C dd_X9_bend_0.2.2.2.2.2.2.2.2.2.2.2.2.2.2.2.1 rfl ?_
      have e_28 := Option.some.inj hE_15
      subst e_28
      exact J_15
def fX9_bend_r (gRn : Nat) (gRk : Nat) (gRG : Nat → Nat → Int32) (i1 : Int32) (i2 : Int32) (i3 : Int32) : Option (Int32 × Int32 × (Nat → Nat → Int32)) := ((fX9_isNoResult_r gRn gRk i1 i2).bind fun x_1 => ((fX9_start_r x_1 1).bind fun x_5 => (if x_5.1 = 0 then ((fX9_isIn i3 (-999) 999).bind fun x_10 => ((((if x_10 = 0 then some 1 else some 0) : Option (Int32))).bind fun r_15 => ((fX9_refuse_r x_5.2 r_15 2).bind fun x_16 => (if x_16.1 = 0 then (if ¬ (i1 < 0 ∨ gRn ≤ i1.toNatClampNeg) then (if ¬ (i2 < 0 ∨ gRk ≤ i2.toNatClampNeg) then (if ¬ (i2 < 0 ∨ gRk ≤ i2.toNatClampNeg) then (if ¬ (i1 < 0 ∨ gRn ≤ i1.toNatClampNeg) then (if ¬ (i2 < 0 ∨ gRk ≤ i2.toNatClampNeg) then some ((upg gRG i1.toNatClampNeg i2.toNatClampNeg ((gRG i1.toNatClampNeg i2.toNatClampNeg) + i3)) i1.toNatClampNeg i2.toNatClampNeg, x_16.2, upg gRG i1.toNatClampNeg i2.toNatClampNeg ((gRG i1.toNatClampNeg i2.toNatClampNeg) + i3)) else none) else none) else none) else none) else none) else some (0, x_16.2, gRG))))) else some (0, x_5.2, gRG))))
set_option maxHeartbeats 4000000 in
set_option maxRecDepth 100000 in
theorem kX9_bend_r (l : Launch) (D : va_G) (cy : Nat → ClassId) (g : Nat) (gth : Int32) (gw : Nat) (gB : Nat) (gK : Nat) (gU : Nat) (gS : Nat) (gbe : Int32) (gwo : Int32) (gta : Int64) (gn : Nat) (glr : Int32) (glc : Int32) (gti : Int32) (ggo : Int32) (gR : Nat) (gch : Int32) (gD : Nat) (gRd : Nat → Nat) (gRn : Nat) (gRk : Nat) (gRG : Nat → Nat → Int32) (i1 : Int32) (i2 : Int32) (i3 : Int32) {res : Int32 × Int32 × (Nat → Nat → Int32)} (hR : fX9_bend_r gRn gRk gRG i1 i2 i3 = some res) : YM l D cy yX9_bend hX9_bend 3 0 0 [.ref g, .int i1, .int i2, .int i3] [[(g, .inr (11, [.int gth, .ref gw, .ref gB, .ref gK, .ref gU, .ref gS, .int gbe, .int gwo, .long gta, .ref gn, .int glr, .int glc, .int gti, .int ggo, .ref gR, .int gch, .ref gD]))], [(gR, .inl (cy 3, gRn, .inr (.inr (.inr (.inr (yad gRd))))))], xg_rows gRd gRn (cy 1) gRk gRG] (fun v u => v = some (.int res.1) ∧ u = [[(g, .inr (11, [.int res.2.1, .ref gw, .ref gB, .ref gK, .ref gU, .ref gS, .int gbe, .int gwo, .long gta, .ref gn, .int glr, .int glc, .int gti, .int ggo, .ref gR, .int gch, .ref gD]))], [(gR, .inl (cy 3, gRn, .inr (.inr (.inr (.inr (yad gRd))))))], xg_rows gRd gRn (cy 1) gRk res.2.2]) := by
  unfold fX9_bend_r at hR
  refine YM.ofI (cc := cX9_bend) (maxL := 4) (ret := (some .int)) (by decide +kernel) rfl (Nat.le_of_ble_eq_true rfl) [(0, .ref g), (1, .int i1), (2, .int i2), (3, .int i3)] rfl rfl (fun p e s m args below meth c A H0 Q C hnm ret => ?_)
  refine xr_aload_n (n := 1) (j := 0) C dd_X9_bend_0.1 rfl rfl ?_
  refine xr_aload_n (n := 2) (j := 0) C dd_X9_bend_0.2.1 rfl rfl ?_
  refine xr_iload_n (n := 3) (j := 1) C dd_X9_bend_0.2.2.1 rfl rfl ?_
  refine xr_iload_n (n := 4) (j := 2) C dd_X9_bend_0.2.2.2.1 rfl rfl ?_
  obtain ⟨x_1, hx_1, hR⟩ := yf_b hR
  refine xr_callVp (n := 7) (As := [.int i1, .int i2]) (rest := [.ref g]) C (kX9_isNoResult_r l D cy (g := g) (gth := gth) (gw := gw) (gB := gB) (gK := gK) (gU := gU) (gS := gS) (gbe := gbe) (gwo := gwo) (gta := gta) (gn := gn) (glr := glr) (glc := glc) (gti := gti) (ggo := ggo) (gR := gR) (gch := gch) (gD := gD) (gRd := gRd) (gRn := gRn) (gRk := gRk) (gRG := gRG) (i1 := i1) (i2 := i2) hx_1) mX9_isNoResult u_1488 u_1490 u_45 0 rfl rfl 3 [0, 1, 2] [] rfl (by decide +kernel) rfl rfl rfl rfl (Nat.le_of_ble_eq_true rfl) (Nat.le_of_ble_eq_true rfl) (Nat.le_of_ble_eq_true rfl) (Nat.le_of_ble_eq_true rfl) (Nat.le_of_ble_eq_true rfl) dd_X9_bend_0.2.2.2.2.1 rfl (fun _ _ hp => hp.2) (fun v_2 hp_4 => ?_)
  obtain ⟨rfl, -⟩ := hp_4
  refine xr_st (st' := [.int x_1, .ref g]) rfl ?_
  refine xr_iconst (n := 8) (v := 1) C dd_X9_bend_0.2.2.2.2.2.1 rfl rfl ?_
  obtain ⟨x_5, hx_5, hR⟩ := yf_b hR
  refine xr_callV (n := 11) (As := [.int x_1, .int 1]) (rest := []) C (kX9_start_r l D cy (g := g) (gth := gth) (gw := gw) (gB := gB) (gK := gK) (gU := gU) (gS := gS) (gbe := gbe) (gwo := gwo) (gta := gta) (gn := gn) (glr := glr) (glc := glc) (gti := gti) (ggo := ggo) (gR := gR) (gch := gch) (gD := gD) (i1 := x_1) (i2 := 1) hx_5) mX9_start u_1301 u_1303 u_29 0 rfl rfl 3 [0] [1, 2] rfl (by decide +kernel) rfl rfl rfl rfl (Nat.le_of_ble_eq_true rfl) (Nat.le_of_ble_eq_true rfl) (Nat.le_of_ble_eq_true rfl) (Nat.le_of_ble_eq_true rfl) (Nat.le_of_ble_eq_true rfl) dd_X9_bend_0.2.2.2.2.2.2.1 rfl (fun v_6 u_7 hp_8 => ?_)
  obtain ⟨rfl, rfl⟩ := hp_8
  refine xr_perm C 3 [0, 1, 2] [] [[(g, .inr (11, [.int x_5.2, .ref gw, .ref gB, .ref gK, .ref gU, .ref gS, .int gbe, .int gwo, .long gta, .ref gn, .int glr, .int glc, .int gti, .int ggo, .ref gR, .int gch, .ref gD]))], [(gR, .inl (cy 3, gRn, .inr (.inr (.inr (.inr (yad gRd))))))], xg_rows gRd gRn (cy 1) gRk gRG] rfl (by decide +kernel) rfl ?_
  refine xr_st (st' := [.int x_5.1]) rfl ?_
  refine xr_if_ne (tgt := 40) (n := 14) C dd_X9_bend_0.2.2.2.2.2.2.2.1 rfl rfl (fun c_9 => ?_) (fun c_9 => ?_)
  · replace hR := yf_f c_9 hR
    refine xr_iconst (n := 41) (v := 0) C dd_X9_bend_1.2.2.2.2.1 rfl rfl ?_
    obtain rfl := Option.some.inj hR
    exact ret 0 ⟨rfl, rfl⟩ (Nat.le_of_ble_eq_true rfl) (Nat.le_of_ble_eq_true rfl) dd_X9_bend_1.2.2.2.2.2.1
  · replace hR := yf_t c_9 hR
    refine xr_aload_n (n := 15) (j := 0) C dd_X9_bend_0.2.2.2.2.2.2.2.2.1 rfl rfl ?_
    refine xr_iload_n (n := 16) (j := 3) C dd_X9_bend_0.2.2.2.2.2.2.2.2.2.1 rfl rfl ?_
    refine xr_sipush (n := 19) (v := -999) C dd_X9_bend_0.2.2.2.2.2.2.2.2.2.2.1 rfl rfl ?_
    refine xr_sipush (n := 22) (v := 999) C dd_X9_bend_0.2.2.2.2.2.2.2.2.2.2.2.1 rfl rfl ?_
    obtain ⟨x_10, hx_10, hR⟩ := yf_b hR
    refine xr_callSp (n := 25) (As := [.int i3, .int (-999), .int 999]) (rest := [.ref g]) C (kX9_isIn l D cy (i1 := i3) (i2 := -999) (i3 := 999) hx_10) mX9_isIn u_1298 u_1299 3 [] [0, 1, 2] rfl (by decide +kernel) rfl rfl rfl rfl (Nat.le_of_ble_eq_true rfl) (Nat.le_of_ble_eq_true rfl) (Nat.le_of_ble_eq_true rfl) (Nat.le_of_ble_eq_true rfl) (Nat.le_of_ble_eq_true rfl) dd_X9_bend_0.2.2.2.2.2.2.2.2.2.2.2.2.1 rfl (fun _ _ hp => hp.2) (fun v_11 hp_13 => ?_)
    obtain ⟨rfl, -⟩ := hp_13
    refine xr_st (st' := [.int x_10, .ref g]) rfl ?_
    obtain ⟨r_15, hE_15, hR⟩ := yf_b hR
    have J_15 : X p l e (yR 3 0 0) s m args below meth c D A H0 4 Q [[(g, .inr (11, [.int x_5.2, .ref gw, .ref gB, .ref gK, .ref gU, .ref gS, .int gbe, .int gwo, .long gta, .ref gn, .int glr, .int glc, .int gti, .int ggo, .ref gR, .int gch, .ref gD]))], [(gR, .inl (cy 3, gRn, .inr (.inr (.inr (.inr (yad gRd))))))], xg_rows gRd gRn (cy 1) gRk gRG] 0 0 [(0, .ref g), (1, .int i1), (2, .int i2), (3, .int i3)] 33 [.int r_15, .ref g] := by
      refine xr_iconst (n := 34) (v := 2) C dd_X9_bend_1.2.1 rfl rfl ?_
      obtain ⟨x_16, hx_16, hR⟩ := yf_b hR
      refine xr_callV (n := 37) (As := [.int r_15, .int 2]) (rest := []) C (kX9_refuse_r l D cy (g := g) (gth := x_5.2) (gw := gw) (gB := gB) (gK := gK) (gU := gU) (gS := gS) (gbe := gbe) (gwo := gwo) (gta := gta) (gn := gn) (glr := glr) (glc := glc) (gti := gti) (ggo := ggo) (gR := gR) (gch := gch) (gD := gD) (i1 := r_15) (i2 := 2) hx_16) mX9_refuse u_1305 u_1307 u_30 0 rfl rfl 3 [0] [1, 2] rfl (by decide +kernel) rfl rfl rfl rfl (Nat.le_of_ble_eq_true rfl) (Nat.le_of_ble_eq_true rfl) (Nat.le_of_ble_eq_true rfl) (Nat.le_of_ble_eq_true rfl) (Nat.le_of_ble_eq_true rfl) dd_X9_bend_1.2.2.1 rfl (fun v_17 u_18 hp_19 => ?_)
      obtain ⟨rfl, rfl⟩ := hp_19
      refine xr_perm C 3 [0, 1, 2] [] [[(g, .inr (11, [.int x_16.2, .ref gw, .ref gB, .ref gK, .ref gU, .ref gS, .int gbe, .int gwo, .long gta, .ref gn, .int glr, .int glc, .int gti, .int ggo, .ref gR, .int gch, .ref gD]))], [(gR, .inl (cy 3, gRn, .inr (.inr (.inr (.inr (yad gRd))))))], xg_rows gRd gRn (cy 1) gRk gRG] rfl (by decide +kernel) rfl ?_
      refine xr_st (st' := [.int x_16.1]) rfl ?_
      refine xr_if_eq (tgt := 42) (n := 40) C dd_X9_bend_1.2.2.2.1 rfl rfl (fun c_20 => ?_) (fun c_20 => ?_)
      · replace hR := yf_t c_20 hR
        refine xr_aload_n (n := 43) (j := 0) C dd_X9_bend_1.2.2.2.2.2.2.1 rfl rfl ?_
        refine xr_get (n := 46) C 0 rfl rfl 14 (by decide) in_X9 u_1251 rfl (v := .ref gR) rfl dd_X9_bend_1.2.2.2.2.2.2.2.1 rfl ?_
        refine xr_iload_n (n := 47) (j := 1) C dd_X9_bend_1.2.2.2.2.2.2.2.2.1 rfl rfl ?_
        obtain ⟨g_21, hR⟩ := yf_g hR
        refine xr_aald (n := 48) C 1 0 rfl 3 rfl rfl g_21 rfl dd_X9_bend_1.2.2.2.2.2.2.2.2.2.1 rfl ?_
        refine xr_iload_n (n := 49) (j := 2) C dd_X9_bend_1.2.2.2.2.2.2.2.2.2.2.1 rfl rfl ?_
        refine xr_dup2 (n := 50) C dd_X9_bend_1.2.2.2.2.2.2.2.2.2.2.2.1 rfl rfl rfl ?_
        obtain ⟨g_22, hR⟩ := yf_g hR
        refine xr_ialdg (n := 51) C 2 rfl i1.toNatClampNeg (ylt g_21) g_22 dd_X9_bend_1.2.2.2.2.2.2.2.2.2.2.2.2.1 rfl ?_
        refine xr_iload_n (n := 52) (j := 3) C dd_X9_bend_1.2.2.2.2.2.2.2.2.2.2.2.2.2.1 rfl rfl ?_
        refine xr_iadd (n := 53) C dd_X9_bend_1.2.2.2.2.2.2.2.2.2.2.2.2.2.2.1 rfl ?_
        obtain ⟨g_23, hR⟩ := yf_g hR
        refine xr_iastg (n := 54) C 2 rfl i1.toNatClampNeg (ylt g_21) g_23 [[(g, .inr (11, [.int x_16.2, .ref gw, .ref gB, .ref gK, .ref gU, .ref gS, .int gbe, .int gwo, .long gta, .ref gn, .int glr, .int glc, .int gti, .int ggo, .ref gR, .int gch, .ref gD]))], [(gR, .inl (cy 3, gRn, .inr (.inr (.inr (.inr (yad gRd))))))], xg_rows gRd gRn (cy 1) gRk (upg gRG i1.toNatClampNeg i2.toNatClampNeg ((gRG i1.toNatClampNeg i2.toNatClampNeg) + i3))] rfl dd_X9_bend_1.2.2.2.2.2.2.2.2.2.2.2.2.2.2.2.1 rfl ?_
        refine xr_aload_n (n := 55) (j := 0) C dd_X9_bend_2.1 rfl rfl ?_
        refine xr_get (n := 58) C 0 rfl rfl 14 (by decide) in_X9 u_1251 rfl (v := .ref gR) rfl dd_X9_bend_2.2.1 rfl ?_
        refine xr_iload_n (n := 59) (j := 1) C dd_X9_bend_2.2.2.1 rfl rfl ?_
        obtain ⟨g_24, hR⟩ := yf_g hR
        refine xr_aald (n := 60) C 1 0 rfl 3 rfl rfl g_24 rfl dd_X9_bend_2.2.2.2.1 rfl ?_
        refine xr_iload_n (n := 61) (j := 2) C dd_X9_bend_2.2.2.2.2.1 rfl rfl ?_
        obtain ⟨g_25, hR⟩ := yf_g hR
        refine xr_ialdg (n := 62) C 2 rfl i1.toNatClampNeg (ylt g_24) g_25 dd_X9_bend_2.2.2.2.2.2.1 rfl ?_
        obtain rfl := Option.some.inj hR
        exact ret ((upg gRG i1.toNatClampNeg i2.toNatClampNeg ((gRG i1.toNatClampNeg i2.toNatClampNeg) + i3)) i1.toNatClampNeg i2.toNatClampNeg) ⟨rfl, rfl⟩ (Nat.le_of_ble_eq_true rfl) (Nat.le_of_ble_eq_true rfl) dd_X9_bend_2.2.2.2.2.2.2.1
      · replace hR := yf_f c_20 hR
        refine xr_iconst (n := 41) (v := 0) C dd_X9_bend_1.2.2.2.2.1 rfl rfl ?_
        obtain rfl := Option.some.inj hR
        exact ret 0 ⟨rfl, rfl⟩ (Nat.le_of_ble_eq_true rfl) (Nat.le_of_ble_eq_true rfl) dd_X9_bend_1.2.2.2.2.2.1
    refine xr_if_ne (tgt := 32) (n := 28) C dd_X9_bend_0.2.2.2.2.2.2.2.2.2.2.2.2.2.1 rfl rfl (fun c_26 => ?_) (fun c_26 => ?_)
    · replace hE_15 := yf_f c_26 hE_15
      refine xr_iconst (n := 33) (v := 0) C dd_X9_bend_1.1 rfl rfl ?_
      have e_27 := Option.some.inj hE_15
      subst e_27
      exact J_15
    · replace hE_15 := yf_t c_26 hE_15
      refine xr_iconst (n := 29) (v := 1) C dd_X9_bend_0.2.2.2.2.2.2.2.2.2.2.2.2.2.2.1 rfl rfl ?_
      refine xr_goto (tgt := 33) C dd_X9_bend_0.2.2.2.2.2.2.2.2.2.2.2.2.2.2.2.1 rfl ?_
      have e_28 := Option.some.inj hE_15
      subst e_28
      exact J_15
theorem dd_X9_off_0 : dk_R cX9_off [(0, .iload_n 1, 1), (1, .ifCond .eq 13, 3), (4, .aload_n 0, 1), (5, .getfield 38, 3), (8, .iconst 0, 1), (9, .aaload, 1), (10, .arraylength, 1), (11, .goto 8, 3), (14, .aload_n 0, 1), (15, .getfield 38, 3), (18, .arraylength, 1), (19, .istore_n 3, 1), (20, .iconst 0, 1), (21, .istore 4, 2), (23, .iconst 0, 1), (24, .istore 5, 2)] := dk_use _ _ (by decide +kernel)
theorem dd_X9_off_1 : dk_R cX9_off [(26, .iload 5, 2), (28, .iload_n 3, 1), (29, .if_icmp .ge 57, 3), (32, .iload_n 1, 1), (33, .ifCond .eq 15, 3), (36, .aload_n 0, 1), (37, .getfield 38, 3), (40, .iload_n 2, 1), (41, .aaload, 1), (42, .iload 5, 2), (44, .iaload, 1), (45, .goto 12, 3), (48, .aload_n 0, 1), (49, .getfield 38, 3), (52, .iload 5, 2), (54, .aaload, 1)] := dk_use _ _ (by decide +kernel)
theorem dd_X9_off_2 : dk_R cX9_off [(55, .iload_n 2, 1), (56, .iaload, 1), (57, .istore 6, 2), (59, .iload 4, 2), (61, .iload 5, 2), (63, .iload_n 3, 1), (64, .iconst 1, 1), (65, .isub, 1), (66, .if_icmp .ne 8, 3), (69, .iload 6, 2), (71, .goto 6, 3), (74, .iload 6, 2), (76, .ineg, 1), (77, .iadd, 1), (78, .istore 4, 2), (80, .iinc 5 1, 3)] := dk_use _ _ (by decide +kernel)
theorem dd_X9_off_3 : dk_R cX9_off [(83, .goto (-57), 3), (86, .iload 4, 2), (88, .ireturn, 1)] := dk_use _ _ (by decide +kernel)
def fX9_off_i (gRn : Nat) (gRk : Nat) (gRG : Nat → Nat → Int32) (i1 : Int32) (i2 : Int32) : Option (Int32) := ((((if i1 = 0 then some (nI gRn) else (if ¬ ((0 : Int32) < 0 ∨ gRn ≤ (0 : Int32).toNatClampNeg) then some (nI gRk) else none)) : Option (Int32))).bind fun r_3 => ((wl (S := Int32 × Int32) (B := Int32 × Int32) (fun s_4 => (if r_3 ≤ s_4.2 then some (.inr (s_4.1, s_4.2)) else ((((if i1 = 0 then (if ¬ (s_4.2 < 0 ∨ gRn ≤ s_4.2.toNatClampNeg) then (if ¬ (i2 < 0 ∨ gRk ≤ i2.toNatClampNeg) then some (gRG s_4.2.toNatClampNeg i2.toNatClampNeg) else none) else none) else (if ¬ (i2 < 0 ∨ gRn ≤ i2.toNatClampNeg) then (if ¬ (s_4.2 < 0 ∨ gRk ≤ s_4.2.toNatClampNeg) then some (gRG i2.toNatClampNeg s_4.2.toNatClampNeg) else none) else none)) : Option (Int32))).bind fun r_12 => ((((if s_4.2 = (r_3 - 1) then some r_12 else some (-r_12)) : Option (Int32))).bind fun r_14 => some (.inl (s_4.1 + r_14, s_4.2 + 1)))))) yFuel (0, 0)).bind fun b_4 => some b_4.1))
abbrev hX9_off : Cond := .code yX9_off cX9_off 7 (some .int)
theorem mX9_off : yM yX9_off hX9_off 2 := ⟨u_1503, u_64, by decide +kernel, by decide +kernel, by decide +kernel⟩
set_option maxHeartbeats 4000000 in
set_option maxRecDepth 100000 in
theorem kX9_off_i (l : Launch) (D : va_G) (cy : Nat → ClassId) (g : Nat) (gth : Int32) (gw : Nat) (gB : Nat) (gK : Nat) (gU : Nat) (gS : Nat) (gbe : Int32) (gwo : Int32) (gta : Int64) (glr : Int32) (glc : Int32) (gti : Int32) (ggo : Int32) (gR : Nat) (gch : Int32) (gD : Nat) (gRd : Nat → Nat) (gRn : Nat) (gRk : Nat) (gRG : Nat → Nat → Int32) (i1 : Int32) (i2 : Int32) {res : Int32} (hR : fX9_off_i gRn gRk gRG i1 i2 = some res) : YM l D cy yX9_off hX9_off 1 0 0 [.ref g, .int i1, .int i2] [[(g, .inr (11, [.int gth, .ref gw, .ref gB, .ref gK, .ref gU, .ref gS, .int gbe, .int gwo, .long gta, .null, .int glr, .int glc, .int gti, .int ggo, .ref gR, .int gch, .ref gD]))], [(gR, .inl (cy 3, gRn, .inr (.inr (.inr (.inr (yad gRd))))))], xg_rows gRd gRn (cy 1) gRk gRG] (fun v u => v = some (.int res) ∧ u = [[(g, .inr (11, [.int gth, .ref gw, .ref gB, .ref gK, .ref gU, .ref gS, .int gbe, .int gwo, .long gta, .null, .int glr, .int glc, .int gti, .int ggo, .ref gR, .int gch, .ref gD]))], [(gR, .inl (cy 3, gRn, .inr (.inr (.inr (.inr (yad gRd))))))], xg_rows gRd gRn (cy 1) gRk gRG]) := by
  unfold fX9_off_i at hR
  refine YM.ofI (cc := cX9_off) (maxL := 7) (ret := (some .int)) (by decide +kernel) rfl (Nat.le_of_ble_eq_true rfl) [(0, .ref g), (1, .int i1), (2, .int i2)] rfl rfl (fun p e s m args below meth c A H0 Q C hnm ret => ?_)
  refine xr_iload_n (n := 1) (j := 1) C dd_X9_off_0.1 rfl rfl ?_
  obtain ⟨r_3, hE_3, hR⟩ := yf_b hR
  have J_3 : X p l e (yR 1 0 0) s m args below meth c D A H0 7 Q [[(g, .inr (11, [.int gth, .ref gw, .ref gB, .ref gK, .ref gU, .ref gS, .int gbe, .int gwo, .long gta, .null, .int glr, .int glc, .int gti, .int ggo, .ref gR, .int gch, .ref gD]))], [(gR, .inl (cy 3, gRn, .inr (.inr (.inr (.inr (yad gRd))))))], xg_rows gRd gRn (cy 1) gRk gRG] 0 0 [(0, .ref g), (1, .int i1), (2, .int i2)] 19 [.int r_3] := by
    refine xr_istore_n (n := 20) C [(3, .int r_3), (0, .ref g), (1, .int i1), (2, .int i2)] dd_X9_off_0.2.2.2.2.2.2.2.2.2.2.2.1 (by decide) rfl rfl ?_
    refine xr_iconst (n := 21) (v := 0) C dd_X9_off_0.2.2.2.2.2.2.2.2.2.2.2.2.1 rfl rfl ?_
    refine xr_istore (n := 23) C [(4, .int 0), (3, .int r_3), (0, .ref g), (1, .int i1), (2, .int i2)] dd_X9_off_0.2.2.2.2.2.2.2.2.2.2.2.2.2.1 (by decide) rfl rfl ?_
    refine xr_iconst (n := 24) (v := 0) C dd_X9_off_0.2.2.2.2.2.2.2.2.2.2.2.2.2.2.1 rfl rfl ?_
    refine xr_istore (n := 26) C [(5, .int 0), (4, .int 0), (3, .int r_3), (0, .ref g), (1, .int i1), (2, .int i2)] dd_X9_off_0.2.2.2.2.2.2.2.2.2.2.2.2.2.2.2.1 (by decide) rfl rfl ?_
    refine xr_lv (lv' := [(0, .ref g), (1, .int i1), (2, .int i2), (3, .int r_3), (4, .int 0), (5, .int 0)]) [3, 4, 5, 2, 1, 0] rfl ?_
    obtain ⟨b_4, hb_4, hR⟩ := yf_b hR
    have K_4 : X p l e (yR 1 0 0) s m args below meth c D A H0 7 Q [[(g, .inr (11, [.int gth, .ref gw, .ref gB, .ref gK, .ref gU, .ref gS, .int gbe, .int gwo, .long gta, .null, .int glr, .int glc, .int gti, .int ggo, .ref gR, .int gch, .ref gD]))], [(gR, .inl (cy 3, gRn, .inr (.inr (.inr (.inr (yad gRd))))))], xg_rows gRd gRn (cy 1) gRk gRG] 0 0 [(4, .int b_4.1)] 86 [] := by
      refine xr_iload (n := 88) (j := 0) C dd_X9_off_3.2.1 rfl rfl ?_
      obtain rfl := Option.some.inj hR
      exact ret b_4.1 ⟨rfl, rfl⟩ (Nat.le_of_ble_eq_true rfl) (Nat.le_of_ble_eq_true rfl) dd_X9_off_3.2.2.1
    refine y_loop (P := fun (s_4 : Int32 × Int32) => X p l e (yR 1 0 0) s m args below meth c D A H0 7 Q [[(g, .inr (11, [.int gth, .ref gw, .ref gB, .ref gK, .ref gU, .ref gS, .int gbe, .int gwo, .long gta, .null, .int glr, .int glc, .int gti, .int ggo, .ref gR, .int gch, .ref gD]))], [(gR, .inl (cy 3, gRn, .inr (.inr (.inr (.inr (yad gRd))))))], xg_rows gRd gRn (cy 1) gRk gRG] 0 0 [(0, .ref g), (1, .int i1), (2, .int i2), (3, .int r_3), (4, .int s_4.1), (5, .int s_4.2)] 26 []) ?_ _ (0, 0) hb_4
    intro s_4 o_4 ho_4 hk_4 hx_4
    refine xr_iload (n := 28) (j := 5) C dd_X9_off_1.1 rfl rfl ?_
    refine xr_iload_n (n := 29) (j := 3) C dd_X9_off_1.2.1 rfl rfl ?_
    refine xr_icmp_ge (tgt := 86) (n := 32) C dd_X9_off_1.2.2.1 rfl rfl (fun c_5 => ?_) (fun c_5 => ?_)
    · replace ho_4 := yf_t c_5 ho_4
      refine xr_lv (lv' := [(4, .int s_4.1)]) [4] rfl ?_
      have e_6 := hx_4 _ (Option.some.inj ho_4).symm
      subst e_6
      exact K_4
    · replace ho_4 := yf_f c_5 ho_4
      refine xr_iload_n (n := 33) (j := 1) C dd_X9_off_1.2.2.2.1 rfl rfl ?_
      obtain ⟨r_12, hE_12, ho_4⟩ := yf_b ho_4
      have J_12 : X p l e (yR 1 0 0) s m args below meth c D A H0 7 Q [[(g, .inr (11, [.int gth, .ref gw, .ref gB, .ref gK, .ref gU, .ref gS, .int gbe, .int gwo, .long gta, .null, .int glr, .int glc, .int gti, .int ggo, .ref gR, .int gch, .ref gD]))], [(gR, .inl (cy 3, gRn, .inr (.inr (.inr (.inr (yad gRd))))))], xg_rows gRd gRn (cy 1) gRk gRG] 0 0 [(0, .ref g), (1, .int i1), (2, .int i2), (3, .int r_3), (4, .int s_4.1), (5, .int s_4.2)] 57 [.int r_12] := by
        refine xr_istore (n := 59) C [(6, .int r_12), (0, .ref g), (1, .int i1), (2, .int i2), (3, .int r_3), (4, .int s_4.1), (5, .int s_4.2)] dd_X9_off_2.2.2.1 (by decide) rfl rfl ?_
        refine xr_iload (n := 61) (j := 5) C dd_X9_off_2.2.2.2.1 rfl rfl ?_
        refine xr_iload (n := 63) (j := 6) C dd_X9_off_2.2.2.2.2.1 rfl rfl ?_
        refine xr_iload_n (n := 64) (j := 4) C dd_X9_off_2.2.2.2.2.2.1 rfl rfl ?_
        refine xr_iconst (n := 65) (v := 1) C dd_X9_off_2.2.2.2.2.2.2.1 rfl rfl ?_
        refine xr_isub (n := 66) C dd_X9_off_2.2.2.2.2.2.2.2.1 rfl ?_
        obtain ⟨r_14, hE_14, ho_4⟩ := yf_b ho_4
        have J_14 : X p l e (yR 1 0 0) s m args below meth c D A H0 7 Q [[(g, .inr (11, [.int gth, .ref gw, .ref gB, .ref gK, .ref gU, .ref gS, .int gbe, .int gwo, .long gta, .null, .int glr, .int glc, .int gti, .int ggo, .ref gR, .int gch, .ref gD]))], [(gR, .inl (cy 3, gRn, .inr (.inr (.inr (.inr (yad gRd))))))], xg_rows gRd gRn (cy 1) gRk gRG] 0 0 [(0, .ref g), (1, .int i1), (2, .int i2), (3, .int r_3), (5, .int s_4.2)] 77 [.int r_14, .int s_4.1] := by
          refine xr_iadd (n := 78) C dd_X9_off_2.2.2.2.2.2.2.2.2.2.2.2.2.2.1 rfl ?_
          refine xr_istore (n := 80) C [(4, .int (s_4.1 + r_14)), (0, .ref g), (1, .int i1), (2, .int i2), (3, .int r_3), (5, .int s_4.2)] dd_X9_off_2.2.2.2.2.2.2.2.2.2.2.2.2.2.2.1 (by decide) rfl rfl ?_
          refine xr_iinc (j := 5) (v := s_4.2 + 1) (n := 83) C [(5, .int (s_4.2 + 1)), (4, .int (s_4.1 + r_14)), (0, .ref g), (1, .int i1), (2, .int i2), (3, .int r_3)] dd_X9_off_2.2.2.2.2.2.2.2.2.2.2.2.2.2.2.2.1 rfl rfl (by decide) rfl rfl ?_
          refine xr_goto (tgt := 26) C dd_X9_off_3.1 rfl ?_
          refine xr_lv (lv' := [(0, .ref g), (1, .int i1), (2, .int i2), (3, .int r_3), (4, .int (s_4.1 + r_14)), (5, .int (s_4.2 + 1))]) [2, 3, 4, 5, 1, 0] rfl ?_
          exact hk_4 (s_4.1 + r_14, s_4.2 + 1) (Option.some.inj ho_4).symm
        refine xr_icmp_ne (tgt := 74) (n := 69) C dd_X9_off_2.2.2.2.2.2.2.2.2.1 rfl rfl (fun c_15 => ?_) (fun c_15 => ?_)
        · replace hE_14 := yf_f c_15 hE_14
          refine xr_iload (n := 76) (j := 0) C dd_X9_off_2.2.2.2.2.2.2.2.2.2.2.2.1 rfl rfl ?_
          refine xr_ineg (n := 77) C dd_X9_off_2.2.2.2.2.2.2.2.2.2.2.2.2.1 rfl ?_
          refine xr_lv (lv' := [(0, .ref g), (1, .int i1), (2, .int i2), (3, .int r_3), (5, .int s_4.2)]) [1, 2, 3, 4, 6] rfl ?_
          have e_16 := Option.some.inj hE_14
          subst e_16
          exact J_14
        · replace hE_14 := yf_t c_15 hE_14
          refine xr_iload (n := 71) (j := 0) C dd_X9_off_2.2.2.2.2.2.2.2.2.2.1 rfl rfl ?_
          refine xr_goto (tgt := 77) C dd_X9_off_2.2.2.2.2.2.2.2.2.2.2.1 rfl ?_
          refine xr_lv (lv' := [(0, .ref g), (1, .int i1), (2, .int i2), (3, .int r_3), (5, .int s_4.2)]) [1, 2, 3, 4, 6] rfl ?_
          have e_17 := Option.some.inj hE_14
          subst e_17
          exact J_14
      refine xr_if_eq (tgt := 48) (n := 36) C dd_X9_off_1.2.2.2.2.1 rfl rfl (fun c_18 => ?_) (fun c_18 => ?_)
      · replace hE_12 := yf_t c_18 hE_12
        refine xr_aload_n (n := 49) (j := 0) C dd_X9_off_1.2.2.2.2.2.2.2.2.2.2.2.2.1 rfl rfl ?_
        refine xr_get (n := 52) C 0 rfl rfl 14 (by decide) in_X9 u_1251 rfl (v := .ref gR) rfl dd_X9_off_1.2.2.2.2.2.2.2.2.2.2.2.2.2.1 rfl ?_
        refine xr_iload (n := 54) (j := 5) C dd_X9_off_1.2.2.2.2.2.2.2.2.2.2.2.2.2.2.1 rfl rfl ?_
        obtain ⟨g_19, hE_12⟩ := yf_g hE_12
        refine xr_aald (n := 55) C 1 0 rfl 3 rfl rfl g_19 rfl dd_X9_off_1.2.2.2.2.2.2.2.2.2.2.2.2.2.2.2.1 rfl ?_
        refine xr_iload_n (n := 56) (j := 2) C dd_X9_off_2.1 rfl rfl ?_
        obtain ⟨g_20, hE_12⟩ := yf_g hE_12
        refine xr_ialdg (n := 57) C 2 rfl s_4.2.toNatClampNeg (ylt g_19) g_20 dd_X9_off_2.2.1 rfl ?_
        have e_21 := Option.some.inj hE_12
        subst e_21
        exact J_12
      · replace hE_12 := yf_f c_18 hE_12
        refine xr_aload_n (n := 37) (j := 0) C dd_X9_off_1.2.2.2.2.2.1 rfl rfl ?_
        refine xr_get (n := 40) C 0 rfl rfl 14 (by decide) in_X9 u_1251 rfl (v := .ref gR) rfl dd_X9_off_1.2.2.2.2.2.2.1 rfl ?_
        refine xr_iload_n (n := 41) (j := 2) C dd_X9_off_1.2.2.2.2.2.2.2.1 rfl rfl ?_
        obtain ⟨g_22, hE_12⟩ := yf_g hE_12
        refine xr_aald (n := 42) C 1 0 rfl 3 rfl rfl g_22 rfl dd_X9_off_1.2.2.2.2.2.2.2.2.1 rfl ?_
        refine xr_iload (n := 44) (j := 5) C dd_X9_off_1.2.2.2.2.2.2.2.2.2.1 rfl rfl ?_
        obtain ⟨g_23, hE_12⟩ := yf_g hE_12
        refine xr_ialdg (n := 45) C 2 rfl i2.toNatClampNeg (ylt g_22) g_23 dd_X9_off_1.2.2.2.2.2.2.2.2.2.2.1 rfl ?_
        refine xr_goto (tgt := 57) C dd_X9_off_1.2.2.2.2.2.2.2.2.2.2.2.1 rfl ?_
        have e_24 := Option.some.inj hE_12
        subst e_24
        exact J_12
  refine xr_if_eq (tgt := 14) (n := 4) C dd_X9_off_0.2.1 rfl rfl (fun c_25 => ?_) (fun c_25 => ?_)
  · replace hE_3 := yf_t c_25 hE_3
    refine xr_aload_n (n := 15) (j := 0) C dd_X9_off_0.2.2.2.2.2.2.2.2.1 rfl rfl ?_
    refine xr_get (n := 18) C 0 rfl rfl 14 (by decide) in_X9 u_1251 rfl (v := .ref gR) rfl dd_X9_off_0.2.2.2.2.2.2.2.2.2.1 rfl ?_
    refine xr_alen (n := 19) C 1 0 rfl 3 rfl rfl dd_X9_off_0.2.2.2.2.2.2.2.2.2.2.1 rfl ?_
    have e_26 := Option.some.inj hE_3
    subst e_26
    exact J_3
  · replace hE_3 := yf_f c_25 hE_3
    refine xr_aload_n (n := 5) (j := 0) C dd_X9_off_0.2.2.1 rfl rfl ?_
    refine xr_get (n := 8) C 0 rfl rfl 14 (by decide) in_X9 u_1251 rfl (v := .ref gR) rfl dd_X9_off_0.2.2.2.1 rfl ?_
    refine xr_iconst (n := 9) (v := 0) C dd_X9_off_0.2.2.2.2.1 rfl rfl ?_
    obtain ⟨g_27, hE_3⟩ := yf_g hE_3
    refine xr_aald (n := 10) C 1 0 rfl 3 rfl rfl g_27 rfl dd_X9_off_0.2.2.2.2.2.1 rfl ?_
    refine xr_aleng (n := 11) C 2 1 rfl ((0 : Int32).toNatClampNeg) (ylt g_27) rfl dd_X9_off_0.2.2.2.2.2.2.1 rfl ?_
    refine xr_goto (tgt := 19) C dd_X9_off_0.2.2.2.2.2.2.2.1 rfl ?_
    have e_28 := Option.some.inj hE_3
    subst e_28
    exact J_3
def fX9_off_r (gRn : Nat) (gRk : Nat) (gRG : Nat → Nat → Int32) (i1 : Int32) (i2 : Int32) : Option (Int32) := ((((if i1 = 0 then some (nI gRn) else (if ¬ ((0 : Int32) < 0 ∨ gRn ≤ (0 : Int32).toNatClampNeg) then some (nI gRk) else none)) : Option (Int32))).bind fun r_3 => ((wl (S := Int32 × Int32) (B := Int32 × Int32) (fun s_4 => (if r_3 ≤ s_4.2 then some (.inr (s_4.1, s_4.2)) else ((((if i1 = 0 then (if ¬ (s_4.2 < 0 ∨ gRn ≤ s_4.2.toNatClampNeg) then (if ¬ (i2 < 0 ∨ gRk ≤ i2.toNatClampNeg) then some (gRG s_4.2.toNatClampNeg i2.toNatClampNeg) else none) else none) else (if ¬ (i2 < 0 ∨ gRn ≤ i2.toNatClampNeg) then (if ¬ (s_4.2 < 0 ∨ gRk ≤ s_4.2.toNatClampNeg) then some (gRG i2.toNatClampNeg s_4.2.toNatClampNeg) else none) else none)) : Option (Int32))).bind fun r_12 => ((((if s_4.2 = (r_3 - 1) then some r_12 else some (-r_12)) : Option (Int32))).bind fun r_14 => some (.inl (s_4.1 + r_14, s_4.2 + 1)))))) yFuel (0, 0)).bind fun b_4 => some b_4.1))
set_option maxHeartbeats 4000000 in
set_option maxRecDepth 100000 in
theorem kX9_off_r (l : Launch) (D : va_G) (cy : Nat → ClassId) (g : Nat) (gth : Int32) (gw : Nat) (gB : Nat) (gK : Nat) (gU : Nat) (gS : Nat) (gbe : Int32) (gwo : Int32) (gta : Int64) (gn : Nat) (glr : Int32) (glc : Int32) (gti : Int32) (ggo : Int32) (gR : Nat) (gch : Int32) (gD : Nat) (gRd : Nat → Nat) (gRn : Nat) (gRk : Nat) (gRG : Nat → Nat → Int32) (i1 : Int32) (i2 : Int32) {res : Int32} (hR : fX9_off_r gRn gRk gRG i1 i2 = some res) : YM l D cy yX9_off hX9_off 1 0 0 [.ref g, .int i1, .int i2] [[(g, .inr (11, [.int gth, .ref gw, .ref gB, .ref gK, .ref gU, .ref gS, .int gbe, .int gwo, .long gta, .ref gn, .int glr, .int glc, .int gti, .int ggo, .ref gR, .int gch, .ref gD]))], [(gR, .inl (cy 3, gRn, .inr (.inr (.inr (.inr (yad gRd))))))], xg_rows gRd gRn (cy 1) gRk gRG] (fun v u => v = some (.int res) ∧ u = [[(g, .inr (11, [.int gth, .ref gw, .ref gB, .ref gK, .ref gU, .ref gS, .int gbe, .int gwo, .long gta, .ref gn, .int glr, .int glc, .int gti, .int ggo, .ref gR, .int gch, .ref gD]))], [(gR, .inl (cy 3, gRn, .inr (.inr (.inr (.inr (yad gRd))))))], xg_rows gRd gRn (cy 1) gRk gRG]) := by
  unfold fX9_off_r at hR
  refine YM.ofI (cc := cX9_off) (maxL := 7) (ret := (some .int)) (by decide +kernel) rfl (Nat.le_of_ble_eq_true rfl) [(0, .ref g), (1, .int i1), (2, .int i2)] rfl rfl (fun p e s m args below meth c A H0 Q C hnm ret => ?_)
  refine xr_iload_n (n := 1) (j := 1) C dd_X9_off_0.1 rfl rfl ?_
  obtain ⟨r_3, hE_3, hR⟩ := yf_b hR
  have J_3 : X p l e (yR 1 0 0) s m args below meth c D A H0 7 Q [[(g, .inr (11, [.int gth, .ref gw, .ref gB, .ref gK, .ref gU, .ref gS, .int gbe, .int gwo, .long gta, .ref gn, .int glr, .int glc, .int gti, .int ggo, .ref gR, .int gch, .ref gD]))], [(gR, .inl (cy 3, gRn, .inr (.inr (.inr (.inr (yad gRd))))))], xg_rows gRd gRn (cy 1) gRk gRG] 0 0 [(0, .ref g), (1, .int i1), (2, .int i2)] 19 [.int r_3] := by
    refine xr_istore_n (n := 20) C [(3, .int r_3), (0, .ref g), (1, .int i1), (2, .int i2)] dd_X9_off_0.2.2.2.2.2.2.2.2.2.2.2.1 (by decide) rfl rfl ?_
    refine xr_iconst (n := 21) (v := 0) C dd_X9_off_0.2.2.2.2.2.2.2.2.2.2.2.2.1 rfl rfl ?_
    refine xr_istore (n := 23) C [(4, .int 0), (3, .int r_3), (0, .ref g), (1, .int i1), (2, .int i2)] dd_X9_off_0.2.2.2.2.2.2.2.2.2.2.2.2.2.1 (by decide) rfl rfl ?_
    refine xr_iconst (n := 24) (v := 0) C dd_X9_off_0.2.2.2.2.2.2.2.2.2.2.2.2.2.2.1 rfl rfl ?_
    refine xr_istore (n := 26) C [(5, .int 0), (4, .int 0), (3, .int r_3), (0, .ref g), (1, .int i1), (2, .int i2)] dd_X9_off_0.2.2.2.2.2.2.2.2.2.2.2.2.2.2.2.1 (by decide) rfl rfl ?_
    refine xr_lv (lv' := [(0, .ref g), (1, .int i1), (2, .int i2), (3, .int r_3), (4, .int 0), (5, .int 0)]) [3, 4, 5, 2, 1, 0] rfl ?_
    obtain ⟨b_4, hb_4, hR⟩ := yf_b hR
    have K_4 : X p l e (yR 1 0 0) s m args below meth c D A H0 7 Q [[(g, .inr (11, [.int gth, .ref gw, .ref gB, .ref gK, .ref gU, .ref gS, .int gbe, .int gwo, .long gta, .ref gn, .int glr, .int glc, .int gti, .int ggo, .ref gR, .int gch, .ref gD]))], [(gR, .inl (cy 3, gRn, .inr (.inr (.inr (.inr (yad gRd))))))], xg_rows gRd gRn (cy 1) gRk gRG] 0 0 [(4, .int b_4.1)] 86 [] := by
      refine xr_iload (n := 88) (j := 0) C dd_X9_off_3.2.1 rfl rfl ?_
      obtain rfl := Option.some.inj hR
      exact ret b_4.1 ⟨rfl, rfl⟩ (Nat.le_of_ble_eq_true rfl) (Nat.le_of_ble_eq_true rfl) dd_X9_off_3.2.2.1
    refine y_loop (P := fun (s_4 : Int32 × Int32) => X p l e (yR 1 0 0) s m args below meth c D A H0 7 Q [[(g, .inr (11, [.int gth, .ref gw, .ref gB, .ref gK, .ref gU, .ref gS, .int gbe, .int gwo, .long gta, .ref gn, .int glr, .int glc, .int gti, .int ggo, .ref gR, .int gch, .ref gD]))], [(gR, .inl (cy 3, gRn, .inr (.inr (.inr (.inr (yad gRd))))))], xg_rows gRd gRn (cy 1) gRk gRG] 0 0 [(0, .ref g), (1, .int i1), (2, .int i2), (3, .int r_3), (4, .int s_4.1), (5, .int s_4.2)] 26 []) ?_ _ (0, 0) hb_4
    intro s_4 o_4 ho_4 hk_4 hx_4
    refine xr_iload (n := 28) (j := 5) C dd_X9_off_1.1 rfl rfl ?_
    refine xr_iload_n (n := 29) (j := 3) C dd_X9_off_1.2.1 rfl rfl ?_
    refine xr_icmp_ge (tgt := 86) (n := 32) C dd_X9_off_1.2.2.1 rfl rfl (fun c_5 => ?_) (fun c_5 => ?_)
    · replace ho_4 := yf_t c_5 ho_4
      refine xr_lv (lv' := [(4, .int s_4.1)]) [4] rfl ?_
      have e_6 := hx_4 _ (Option.some.inj ho_4).symm
      subst e_6
      exact K_4
    · replace ho_4 := yf_f c_5 ho_4
      refine xr_iload_n (n := 33) (j := 1) C dd_X9_off_1.2.2.2.1 rfl rfl ?_
      obtain ⟨r_12, hE_12, ho_4⟩ := yf_b ho_4
      have J_12 : X p l e (yR 1 0 0) s m args below meth c D A H0 7 Q [[(g, .inr (11, [.int gth, .ref gw, .ref gB, .ref gK, .ref gU, .ref gS, .int gbe, .int gwo, .long gta, .ref gn, .int glr, .int glc, .int gti, .int ggo, .ref gR, .int gch, .ref gD]))], [(gR, .inl (cy 3, gRn, .inr (.inr (.inr (.inr (yad gRd))))))], xg_rows gRd gRn (cy 1) gRk gRG] 0 0 [(0, .ref g), (1, .int i1), (2, .int i2), (3, .int r_3), (4, .int s_4.1), (5, .int s_4.2)] 57 [.int r_12] := by
        refine xr_istore (n := 59) C [(6, .int r_12), (0, .ref g), (1, .int i1), (2, .int i2), (3, .int r_3), (4, .int s_4.1), (5, .int s_4.2)] dd_X9_off_2.2.2.1 (by decide) rfl rfl ?_
        refine xr_iload (n := 61) (j := 5) C dd_X9_off_2.2.2.2.1 rfl rfl ?_
        refine xr_iload (n := 63) (j := 6) C dd_X9_off_2.2.2.2.2.1 rfl rfl ?_
        refine xr_iload_n (n := 64) (j := 4) C dd_X9_off_2.2.2.2.2.2.1 rfl rfl ?_
        refine xr_iconst (n := 65) (v := 1) C dd_X9_off_2.2.2.2.2.2.2.1 rfl rfl ?_
        refine xr_isub (n := 66) C dd_X9_off_2.2.2.2.2.2.2.2.1 rfl ?_
        obtain ⟨r_14, hE_14, ho_4⟩ := yf_b ho_4
        have J_14 : X p l e (yR 1 0 0) s m args below meth c D A H0 7 Q [[(g, .inr (11, [.int gth, .ref gw, .ref gB, .ref gK, .ref gU, .ref gS, .int gbe, .int gwo, .long gta, .ref gn, .int glr, .int glc, .int gti, .int ggo, .ref gR, .int gch, .ref gD]))], [(gR, .inl (cy 3, gRn, .inr (.inr (.inr (.inr (yad gRd))))))], xg_rows gRd gRn (cy 1) gRk gRG] 0 0 [(0, .ref g), (1, .int i1), (2, .int i2), (3, .int r_3), (5, .int s_4.2)] 77 [.int r_14, .int s_4.1] := by
          refine xr_iadd (n := 78) C dd_X9_off_2.2.2.2.2.2.2.2.2.2.2.2.2.2.1 rfl ?_
          refine xr_istore (n := 80) C [(4, .int (s_4.1 + r_14)), (0, .ref g), (1, .int i1), (2, .int i2), (3, .int r_3), (5, .int s_4.2)] dd_X9_off_2.2.2.2.2.2.2.2.2.2.2.2.2.2.2.1 (by decide) rfl rfl ?_
          refine xr_iinc (j := 5) (v := s_4.2 + 1) (n := 83) C [(5, .int (s_4.2 + 1)), (4, .int (s_4.1 + r_14)), (0, .ref g), (1, .int i1), (2, .int i2), (3, .int r_3)] dd_X9_off_2.2.2.2.2.2.2.2.2.2.2.2.2.2.2.2.1 rfl rfl (by decide) rfl rfl ?_
          refine xr_goto (tgt := 26) C dd_X9_off_3.1 rfl ?_
          refine xr_lv (lv' := [(0, .ref g), (1, .int i1), (2, .int i2), (3, .int r_3), (4, .int (s_4.1 + r_14)), (5, .int (s_4.2 + 1))]) [2, 3, 4, 5, 1, 0] rfl ?_
          exact hk_4 (s_4.1 + r_14, s_4.2 + 1) (Option.some.inj ho_4).symm
        refine xr_icmp_ne (tgt := 74) (n := 69) C dd_X9_off_2.2.2.2.2.2.2.2.2.1 rfl rfl (fun c_15 => ?_) (fun c_15 => ?_)
        · replace hE_14 := yf_f c_15 hE_14
          refine xr_iload (n := 76) (j := 0) C dd_X9_off_2.2.2.2.2.2.2.2.2.2.2.2.1 rfl rfl ?_
          refine xr_ineg (n := 77) C dd_X9_off_2.2.2.2.2.2.2.2.2.2.2.2.2.1 rfl ?_
          refine xr_lv (lv' := [(0, .ref g), (1, .int i1), (2, .int i2), (3, .int r_3), (5, .int s_4.2)]) [1, 2, 3, 4, 6] rfl ?_
          have e_16 := Option.some.inj hE_14
          subst e_16
          exact J_14
        · replace hE_14 := yf_t c_15 hE_14
          refine xr_iload (n := 71) (j := 0) C dd_X9_off_2.2.2.2.2.2.2.2.2.2.1 rfl rfl ?_
          refine xr_goto (tgt := 77) C dd_X9_off_2.2.2.2.2.2.2.2.2.2.2.1 rfl ?_
          refine xr_lv (lv' := [(0, .ref g), (1, .int i1), (2, .int i2), (3, .int r_3), (5, .int s_4.2)]) [1, 2, 3, 4, 6] rfl ?_
          have e_17 := Option.some.inj hE_14
          subst e_17
          exact J_14
      refine xr_if_eq (tgt := 48) (n := 36) C dd_X9_off_1.2.2.2.2.1 rfl rfl (fun c_18 => ?_) (fun c_18 => ?_)
      · replace hE_12 := yf_t c_18 hE_12
        refine xr_aload_n (n := 49) (j := 0) C dd_X9_off_1.2.2.2.2.2.2.2.2.2.2.2.2.1 rfl rfl ?_
        refine xr_get (n := 52) C 0 rfl rfl 14 (by decide) in_X9 u_1251 rfl (v := .ref gR) rfl dd_X9_off_1.2.2.2.2.2.2.2.2.2.2.2.2.2.1 rfl ?_
        refine xr_iload (n := 54) (j := 5) C dd_X9_off_1.2.2.2.2.2.2.2.2.2.2.2.2.2.2.1 rfl rfl ?_
        obtain ⟨g_19, hE_12⟩ := yf_g hE_12
        refine xr_aald (n := 55) C 1 0 rfl 3 rfl rfl g_19 rfl dd_X9_off_1.2.2.2.2.2.2.2.2.2.2.2.2.2.2.2.1 rfl ?_
        refine xr_iload_n (n := 56) (j := 2) C dd_X9_off_2.1 rfl rfl ?_
        obtain ⟨g_20, hE_12⟩ := yf_g hE_12
        refine xr_ialdg (n := 57) C 2 rfl s_4.2.toNatClampNeg (ylt g_19) g_20 dd_X9_off_2.2.1 rfl ?_
        have e_21 := Option.some.inj hE_12
        subst e_21
        exact J_12
      · replace hE_12 := yf_f c_18 hE_12
        refine xr_aload_n (n := 37) (j := 0) C dd_X9_off_1.2.2.2.2.2.1 rfl rfl ?_
        refine xr_get (n := 40) C 0 rfl rfl 14 (by decide) in_X9 u_1251 rfl (v := .ref gR) rfl dd_X9_off_1.2.2.2.2.2.2.1 rfl ?_
        refine xr_iload_n (n := 41) (j := 2) C dd_X9_off_1.2.2.2.2.2.2.2.1 rfl rfl ?_
        obtain ⟨g_22, hE_12⟩ := yf_g hE_12
        refine xr_aald (n := 42) C 1 0 rfl 3 rfl rfl g_22 rfl dd_X9_off_1.2.2.2.2.2.2.2.2.1 rfl ?_
        refine xr_iload (n := 44) (j := 5) C dd_X9_off_1.2.2.2.2.2.2.2.2.2.1 rfl rfl ?_
        obtain ⟨g_23, hE_12⟩ := yf_g hE_12
        refine xr_ialdg (n := 45) C 2 rfl i2.toNatClampNeg (ylt g_22) g_23 dd_X9_off_1.2.2.2.2.2.2.2.2.2.2.1 rfl ?_
        refine xr_goto (tgt := 57) C dd_X9_off_1.2.2.2.2.2.2.2.2.2.2.2.1 rfl ?_
        have e_24 := Option.some.inj hE_12
        subst e_24
        exact J_12
  refine xr_if_eq (tgt := 14) (n := 4) C dd_X9_off_0.2.1 rfl rfl (fun c_25 => ?_) (fun c_25 => ?_)
  · replace hE_3 := yf_t c_25 hE_3
    refine xr_aload_n (n := 15) (j := 0) C dd_X9_off_0.2.2.2.2.2.2.2.2.1 rfl rfl ?_
    refine xr_get (n := 18) C 0 rfl rfl 14 (by decide) in_X9 u_1251 rfl (v := .ref gR) rfl dd_X9_off_0.2.2.2.2.2.2.2.2.2.1 rfl ?_
    refine xr_alen (n := 19) C 1 0 rfl 3 rfl rfl dd_X9_off_0.2.2.2.2.2.2.2.2.2.2.1 rfl ?_
    have e_26 := Option.some.inj hE_3
    subst e_26
    exact J_3
  · replace hE_3 := yf_f c_25 hE_3
    refine xr_aload_n (n := 5) (j := 0) C dd_X9_off_0.2.2.1 rfl rfl ?_
    refine xr_get (n := 8) C 0 rfl rfl 14 (by decide) in_X9 u_1251 rfl (v := .ref gR) rfl dd_X9_off_0.2.2.2.1 rfl ?_
    refine xr_iconst (n := 9) (v := 0) C dd_X9_off_0.2.2.2.2.1 rfl rfl ?_
    obtain ⟨g_27, hE_3⟩ := yf_g hE_3
    refine xr_aald (n := 10) C 1 0 rfl 3 rfl rfl g_27 rfl dd_X9_off_0.2.2.2.2.2.1 rfl ?_
    refine xr_aleng (n := 11) C 2 1 rfl ((0 : Int32).toNatClampNeg) (ylt g_27) rfl dd_X9_off_0.2.2.2.2.2.2.1 rfl ?_
    refine xr_goto (tgt := 19) C dd_X9_off_0.2.2.2.2.2.2.2.1 rfl ?_
    have e_28 := Option.some.inj hE_3
    subst e_28
    exact J_3
