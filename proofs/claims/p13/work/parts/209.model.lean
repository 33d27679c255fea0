theorem u_1251 : Cond.fieldLink RX9 38 "PulsemeshModel" "results" "[[I" ∈ yU := yu_tables_1_5 235 (by decide +kernel) (by decide +kernel)
theorem u_1491 : Cond.code yX9_isNoResult cX9_isNoResult 3 (some .boolean) ∈ yU := yu_tables_1_6 235 (by decide +kernel) (by decide +kernel)
theorem u_1488 : Cond.methodLink RX9 228 yX9_isNoResult ∈ yU := yu_tables_1_6 232 (by decide +kernel) (by decide +kernel)
theorem u_1490 : Cond.instanceMethod yX9_isNoResult ∈ yU := yu_tables_1_6 234 (by decide +kernel) (by decide +kernel)
theorem u_45 : Cond.selects RX9 yX9_isNoResult yX9_isNoResult ∈ yU := yu 45 (by decide +kernel) (by decide +kernel)
theorem u_1487 : Cond.code yX9_bend cX9_bend 4 (some .int) ∈ yU := yu_tables_1_6 231 (by decide +kernel) (by decide +kernel)
theorem u_1503 : Cond.code yX9_off cX9_off 7 (some .int) ∈ yU := yu_tables_1_7 7 (by decide +kernel) (by decide +kernel)
theorem dX9_isNoResult_0 : decode cX9_isNoResult 0 = .ok (.iload_n 1, 1) := by decide +kernel
theorem dX9_isNoResult_1 : decode cX9_isNoResult 1 = .ok (.iconst 0, 1) := by decide +kernel
theorem dX9_isNoResult_2 : decode cX9_isNoResult 2 = .ok (.aload_n 0, 1) := by decide +kernel
theorem dX9_isNoResult_3 : decode cX9_isNoResult 3 = .ok (.getfield 38, 3) := by decide +kernel
theorem dX9_isNoResult_6 : decode cX9_isNoResult 6 = .ok (.arraylength, 1) := by decide +kernel
theorem dX9_isNoResult_7 : decode cX9_isNoResult 7 = .ok (.iconst 1, 1) := by decide +kernel
theorem dX9_isNoResult_8 : decode cX9_isNoResult 8 = .ok (.isub, 1) := by decide +kernel
theorem dX9_isNoResult_9 : decode cX9_isNoResult 9 = .ok (.invokestatic 75, 3) := by decide +kernel
theorem dX9_isNoResult_12 : decode cX9_isNoResult 12 = .ok (.ifCond .eq 20, 3) := by decide +kernel
theorem dX9_isNoResult_15 : decode cX9_isNoResult 15 = .ok (.iload_n 2, 1) := by decide +kernel
theorem dX9_isNoResult_16 : decode cX9_isNoResult 16 = .ok (.iconst 0, 1) := by decide +kernel
theorem dX9_isNoResult_17 : decode cX9_isNoResult 17 = .ok (.aload_n 0, 1) := by decide +kernel
theorem dX9_isNoResult_18 : decode cX9_isNoResult 18 = .ok (.getfield 38, 3) := by decide +kernel
theorem dX9_isNoResult_21 : decode cX9_isNoResult 21 = .ok (.iconst 0, 1) := by decide +kernel
theorem dX9_isNoResult_22 : decode cX9_isNoResult 22 = .ok (.aaload, 1) := by decide +kernel
theorem dX9_isNoResult_23 : decode cX9_isNoResult 23 = .ok (.arraylength, 1) := by decide +kernel
theorem dX9_isNoResult_24 : decode cX9_isNoResult 24 = .ok (.iconst 1, 1) := by decide +kernel
theorem dX9_isNoResult_25 : decode cX9_isNoResult 25 = .ok (.isub, 1) := by decide +kernel
theorem dX9_isNoResult_26 : decode cX9_isNoResult 26 = .ok (.invokestatic 75, 3) := by decide +kernel
theorem dX9_isNoResult_29 : decode cX9_isNoResult 29 = .ok (.ifCond .ne 7, 3) := by decide +kernel
theorem dX9_isNoResult_32 : decode cX9_isNoResult 32 = .ok (.iconst 1, 1) := by decide +kernel
theorem dX9_isNoResult_33 : decode cX9_isNoResult 33 = .ok (.goto 4, 3) := by decide +kernel
theorem dX9_isNoResult_36 : decode cX9_isNoResult 36 = .ok (.iconst 0, 1) := by decide +kernel
theorem dX9_isNoResult_37 : decode cX9_isNoResult 37 = .ok (.ireturn, 1) := by decide +kernel
def fX9_isNoResult_i (gRn : Nat) (gRk : Nat) (i1 : Int32) (i2 : Int32) : Option (Int32) := ((fX9_isIn i1 0 ((nI gRn) - 1)).bind fun x_1 => (if x_1 = 0 then some 1 else (if ¬ ((0 : Int32) < 0 ∨ gRn ≤ (0 : Int32).toNatClampNeg) then ((fX9_isIn i2 0 ((nI gRk) - 1)).bind fun x_7 => (if x_7 = 0 then some 1 else some 0)) else none)))
abbrev hX9_isNoResult : Cond := .code yX9_isNoResult cX9_isNoResult 3 (some .boolean)
theorem mX9_isNoResult : yM yX9_isNoResult hX9_isNoResult 2 := ⟨u_1491, u_64, by decide +kernel, by decide +kernel, by decide +kernel⟩
set_option maxHeartbeats 4000000 in
set_option maxRecDepth 100000 in
theorem kX9_isNoResult_i (l : Launch) (D : va_G) (cy : Nat → ClassId) (g : Nat) (gth : Int32) (gw : Nat) (gB : Nat) (gK : Nat) (gU : Nat) (gS : Nat) (gbe : Int32) (gwo : Int32) (gta : Int64) (glr : Int32) (glc : Int32) (gti : Int32) (ggo : Int32) (gR : Nat) (gch : Int32) (gD : Nat) (gRd : Nat → Nat) (gRn : Nat) (gRk : Nat) (gRG : Nat → Nat → Int32) (i1 : Int32) (i2 : Int32) {res : Int32} (hR : fX9_isNoResult_i gRn gRk i1 i2 = some res) : YM l D cy yX9_isNoResult hX9_isNoResult 2 0 0 [.ref g, .int i1, .int i2] [[(g, .inr (11, [.int gth, .ref gw, .ref gB, .ref gK, .ref gU, .ref gS, .int gbe, .int gwo, .long gta, .null, .int glr, .int glc, .int gti, .int ggo, .ref gR, .int gch, .ref gD]))], [(gR, .inl (cy 3, gRn, .inr (.inr (.inr (.inr (yad gRd))))))], xg_rows gRd gRn (cy 1) gRk gRG] (fun v u => v = some (.int res) ∧ u = [[(g, .inr (11, [.int gth, .ref gw, .ref gB, .ref gK, .ref gU, .ref gS, .int gbe, .int gwo, .long gta, .null, .int glr, .int glc, .int gti, .int ggo, .ref gR, .int gch, .ref gD]))], [(gR, .inl (cy 3, gRn, .inr (.inr (.inr (.inr (yad gRd))))))], xg_rows gRd gRn (cy 1) gRk gRG]) := by
  unfold fX9_isNoResult_i at hR
  refine YM.ofZ (cc := cX9_isNoResult) (maxL := 3) (ret := (some .boolean)) (by decide +kernel) rfl (Nat.le_of_ble_eq_true rfl) [(0, .ref g), (1, .int i1), (2, .int i2)] rfl .boolean rfl (fun p e s m args below meth c A H0 Q C hnm ret => ?_)
  refine xr_iload_n (n := 1) (j := 1) C dX9_isNoResult_0 rfl rfl ?_
  refine xr_iconst (n := 2) (v := 0) C dX9_isNoResult_1 rfl rfl ?_
  refine xr_aload_n (n := 3) (j := 0) C dX9_isNoResult_2 rfl rfl ?_
  refine xr_get (n := 6) C 0 rfl rfl 14 (by decide) in_X9 u_1251 rfl (v := .ref gR) rfl dX9_isNoResult_3 rfl ?_
  refine xr_alen (n := 7) C 1 0 rfl 3 rfl rfl dX9_isNoResult_6 rfl ?_
  refine xr_iconst (n := 8) (v := 1) C dX9_isNoResult_7 rfl rfl ?_
  refine xr_isub (n := 9) C dX9_isNoResult_8 rfl ?_
  obtain ⟨x_1, hx_1, hR⟩ := yf_b hR
  refine xr_callSp (n := 12) (As := [.int i1, .int 0, .int ((nI gRn) - 1)]) (rest := []) C (kX9_isIn l D cy (i1 := i1) (i2 := 0) (i3 := (nI gRn) - 1) hx_1) mX9_isIn u_1298 u_1299 3 [] [0, 1, 2] rfl (by decide +kernel) rfl rfl rfl rfl (Nat.le_of_ble_eq_true rfl) (Nat.le_of_ble_eq_true rfl) (Nat.le_of_ble_eq_true rfl) (Nat.le_of_ble_eq_true rfl) (Nat.le_of_ble_eq_true rfl) dX9_isNoResult_9 rfl (fun _ _ hp => hp.2) (fun v_2 hp_4 => ?_)
  obtain ⟨rfl, -⟩ := hp_4
  refine xr_st (st' := [.int x_1]) rfl ?_
  refine xr_if_eq (tgt := 32) (n := 15) C dX9_isNoResult_12 rfl rfl (fun c_5 => ?_) (fun c_5 => ?_)
  · replace hR := yf_t c_5 hR
    refine xr_iconst (n := 33) (v := 1) C dX9_isNoResult_32 rfl rfl ?_
    refine xr_goto (tgt := 37) C dX9_isNoResult_33 rfl ?_
    obtain rfl := Option.some.inj hR
    exact ret 1 (by decide) ⟨rfl, rfl⟩ (Nat.le_of_ble_eq_true rfl) (Nat.le_of_ble_eq_true rfl) dX9_isNoResult_37
  · replace hR := yf_f c_5 hR
    refine xr_iload_n (n := 16) (j := 2) C dX9_isNoResult_15 rfl rfl ?_
    refine xr_iconst (n := 17) (v := 0) C dX9_isNoResult_16 rfl rfl ?_
    refine xr_aload_n (n := 18) (j := 0) C dX9_isNoResult_17 rfl rfl ?_
    refine xr_get (n := 21) C 0 rfl rfl 14 (by decide) in_X9 u_1251 rfl (v := .ref gR) rfl dX9_isNoResult_18 rfl ?_
    refine xr_iconst (n := 22) (v := 0) C dX9_isNoResult_21 rfl rfl ?_
    obtain ⟨g_6, hR⟩ := yf_g hR
    refine xr_aald (n := 23) C 1 0 rfl 3 rfl rfl g_6 rfl dX9_isNoResult_22 rfl ?_
    refine xr_aleng (n := 24) C 2 1 rfl ((0 : Int32).toNatClampNeg) (ylt g_6) rfl dX9_isNoResult_23 rfl ?_
    refine xr_iconst (n := 25) (v := 1) C dX9_isNoResult_24 rfl rfl ?_
    refine xr_isub (n := 26) C dX9_isNoResult_25 rfl ?_
    obtain ⟨x_7, hx_7, hR⟩ := yf_b hR
    refine xr_callSp (n := 29) (As := [.int i2, .int 0, .int ((nI gRk) - 1)]) (rest := []) C (kX9_isIn l D cy (i1 := i2) (i2 := 0) (i3 := (nI gRk) - 1) hx_7) mX9_isIn u_1298 u_1299 3 [] [0, 1, 2] rfl (by decide +kernel) rfl rfl rfl rfl (Nat.le_of_ble_eq_true rfl) (Nat.le_of_ble_eq_true rfl) (Nat.le_of_ble_eq_true rfl) (Nat.le_of_ble_eq_true rfl) (Nat.le_of_ble_eq_true rfl) dX9_isNoResult_26 rfl (fun _ _ hp => hp.2) (fun v_8 hp_10 => ?_)
    obtain ⟨rfl, -⟩ := hp_10
    refine xr_st (st' := [.int x_7]) rfl ?_
    refine xr_if_ne (tgt := 36) (n := 32) C dX9_isNoResult_29 rfl rfl (fun c_11 => ?_) (fun c_11 => ?_)
    · replace hR := yf_f c_11 hR
      refine xr_iconst (n := 37) (v := 0) C dX9_isNoResult_36 rfl rfl ?_
      obtain rfl := Option.some.inj hR
      exact ret 0 (by decide) ⟨rfl, rfl⟩ (Nat.le_of_ble_eq_true rfl) (Nat.le_of_ble_eq_true rfl) dX9_isNoResult_37
    · replace hR := yf_t c_11 hR
      refine xr_iconst (n := 33) (v := 1) C dX9_isNoResult_32 rfl rfl ?_
      refine xr_goto (tgt := 37) C dX9_isNoResult_33 rfl ?_
      obtain rfl := Option.some.inj hR
      exact ret 1 (by decide) ⟨rfl, rfl⟩ (Nat.le_of_ble_eq_true rfl) (Nat.le_of_ble_eq_true rfl) dX9_isNoResult_37
def fX9_isNoResult_r (gRn : Nat) (gRk : Nat) (i1 : Int32) (i2 : Int32) : Option (Int32) := ((fX9_isIn i1 0 ((nI gRn) - 1)).bind fun x_1 => (if x_1 = 0 then some 1 else (if ¬ ((0 : Int32) < 0 ∨ gRn ≤ (0 : Int32).toNatClampNeg) then ((fX9_isIn i2 0 ((nI gRk) - 1)).bind fun x_7 => (if x_7 = 0 then some 1 else some 0)) else none)))
set_option maxHeartbeats 4000000 in
set_option maxRecDepth 100000 in
theorem kX9_isNoResult_r (l : Launch) (D : va_G) (cy : Nat → ClassId) (g : Nat) (gth : Int32) (gw : Nat) (gB : Nat) (gK : Nat) (gU : Nat) (gS : Nat) (gbe : Int32) (gwo : Int32) (gta : Int64) (gn : Nat) (glr : Int32) (glc : Int32) (gti : Int32) (ggo : Int32) (gR : Nat) (gch : Int32) (gD : Nat) (gRd : Nat → Nat) (gRn : Nat) (gRk : Nat) (gRG : Nat → Nat → Int32) (i1 : Int32) (i2 : Int32) {res : Int32} (hR : fX9_isNoResult_r gRn gRk i1 i2 = some res) : YM l D cy yX9_isNoResult hX9_isNoResult 2 0 0 [.ref g, .int i1, .int i2] [[(g, .inr (11, [.int gth, .ref gw, .ref gB, .ref gK, .ref gU, .ref gS, .int gbe, .int gwo, .long gta, .ref gn, .int glr, .int glc, .int gti, .int ggo, .ref gR, .int gch, .ref gD]))], [(gR, .inl (cy 3, gRn, .inr (.inr (.inr (.inr (yad gRd))))))], xg_rows gRd gRn (cy 1) gRk gRG] (fun v u => v = some (.int res) ∧ u = [[(g, .inr (11, [.int gth, .ref gw, .ref gB, .ref gK, .ref gU, .ref gS, .int gbe, .int gwo, .long gta, .ref gn, .int glr, .int glc, .int gti, .int ggo, .ref gR, .int gch, .ref gD]))], [(gR, .inl (cy 3, gRn, .inr (.inr (.inr (.inr (yad gRd))))))], xg_rows gRd gRn (cy 1) gRk gRG]) := by
  unfold fX9_isNoResult_r at hR
  refine YM.ofZ (cc := cX9_isNoResult) (maxL := 3) (ret := (some .boolean)) (by decide +kernel) rfl (Nat.le_of_ble_eq_true rfl) [(0, .ref g), (1, .int i1), (2, .int i2)] rfl .boolean rfl (fun p e s m args below meth c A H0 Q C hnm ret => ?_)
  refine xr_iload_n (n := 1) (j := 1) C dX9_isNoResult_0 rfl rfl ?_
  refine xr_iconst (n := 2) (v := 0) C dX9_isNoResult_1 rfl rfl ?_
  refine xr_aload_n (n := 3) (j := 0) C dX9_isNoResult_2 rfl rfl ?_
  refine xr_get (n := 6) C 0 rfl rfl 14 (by decide) in_X9 u_1251 rfl (v := .ref gR) rfl dX9_isNoResult_3 rfl ?_
  refine xr_alen (n := 7) C 1 0 rfl 3 rfl rfl dX9_isNoResult_6 rfl ?_
  refine xr_iconst (n := 8) (v := 1) C dX9_isNoResult_7 rfl rfl ?_
  refine xr_isub (n := 9) C dX9_isNoResult_8 rfl ?_
  obtain ⟨x_1, hx_1, hR⟩ := yf_b hR
  refine xr_callSp (n := 12) (As := [.int i1, .int 0, .int ((nI gRn) - 1)]) (rest := []) C (kX9_isIn l D cy (i1 := i1) (i2 := 0) (i3 := (nI gRn) - 1) hx_1) mX9_isIn u_1298 u_1299 3 [] [0, 1, 2] rfl (by decide +kernel) rfl rfl rfl rfl (Nat.le_of_ble_eq_true rfl) (Nat.le_of_ble_eq_true rfl) (Nat.le_of_ble_eq_true rfl) (Nat.le_of_ble_eq_true rfl) (Nat.le_of_ble_eq_true rfl) dX9_isNoResult_9 rfl (fun _ _ hp => hp.2) (fun v_2 hp_4 => ?_)
  obtain ⟨rfl, -⟩ := hp_4
  refine xr_st (st' := [.int x_1]) rfl ?_
  refine xr_if_eq (tgt := 32) (n := 15) C dX9_isNoResult_12 rfl rfl (fun c_5 => ?_) (fun c_5 => ?_)
  · replace hR := yf_t c_5 hR
    refine xr_iconst (n := 33) (v := 1) C dX9_isNoResult_32 rfl rfl ?_
    refine xr_goto (tgt := 37) C dX9_isNoResult_33 rfl ?_
    obtain rfl := Option.some.inj hR
    exact ret 1 (by decide) ⟨rfl, rfl⟩ (Nat.le_of_ble_eq_true rfl) (Nat.le_of_ble_eq_true rfl) dX9_isNoResult_37
  · replace hR := yf_f c_5 hR
    refine xr_iload_n (n := 16) (j := 2) C dX9_isNoResult_15 rfl rfl ?_
    refine xr_iconst (n := 17) (v := 0) C dX9_isNoResult_16 rfl rfl ?_
    refine xr_aload_n (n := 18) (j := 0) C dX9_isNoResult_17 rfl rfl ?_
    refine xr_get (n := 21) C 0 rfl rfl 14 (by decide) in_X9 u_1251 rfl (v := .ref gR) rfl dX9_isNoResult_18 rfl ?_
    refine xr_iconst (n := 22) (v := 0) C dX9_isNoResult_21 rfl rfl ?_
    obtain ⟨g_6, hR⟩ := yf_g hR
    refine xr_aald (n := 23) C 1 0 rfl 3 rfl rfl g_6 rfl dX9_isNoResult_22 rfl ?_
    refine xr_aleng (n := 24) C 2 1 rfl ((0 : Int32).toNatClampNeg) (ylt g_6) rfl dX9_isNoResult_23 rfl ?_
    refine xr_iconst (n := 25) (v := 1) C dX9_isNoResult_24 rfl rfl ?_
    refine xr_isub (n := 26) C dX9_isNoResult_25 rfl ?_
    obtain ⟨x_7, hx_7, hR⟩ := yf_b hR
    refine xr_callSp (n := 29) (As := [.int i2, .int 0, .int ((nI gRk) - 1)]) (rest := []) C (kX9_isIn l D cy (i1 := i2) (i2 := 0) (i3 := (nI gRk) - 1) hx_7) mX9_isIn u_1298 u_1299 3 [] [0, 1, 2] rfl (by decide +kernel) rfl rfl rfl rfl (Nat.le_of_ble_eq_true rfl) (Nat.le_of_ble_eq_true rfl) (Nat.le_of_ble_eq_true rfl) (Nat.le_of_ble_eq_true rfl) (Nat.le_of_ble_eq_true rfl) dX9_isNoResult_26 rfl (fun _ _ hp => hp.2) (fun v_8 hp_10 => ?_)
    obtain ⟨rfl, -⟩ := hp_10
    refine xr_st (st' := [.int x_7]) rfl ?_
    refine xr_if_ne (tgt := 36) (n := 32) C dX9_isNoResult_29 rfl rfl (fun c_11 => ?_) (fun c_11 => ?_)
    · replace hR := yf_f c_11 hR
      refine xr_iconst (n := 37) (v := 0) C dX9_isNoResult_36 rfl rfl ?_
      obtain rfl := Option.some.inj hR
      exact ret 0 (by decide) ⟨rfl, rfl⟩ (Nat.le_of_ble_eq_true rfl) (Nat.le_of_ble_eq_true rfl) dX9_isNoResult_37
    · replace hR := yf_t c_11 hR
      refine xr_iconst (n := 33) (v := 1) C dX9_isNoResult_32 rfl rfl ?_
      refine xr_goto (tgt := 37) C dX9_isNoResult_33 rfl ?_
      obtain rfl := Option.some.inj hR
      exact ret 1 (by decide) ⟨rfl, rfl⟩ (Nat.le_of_ble_eq_true rfl) (Nat.le_of_ble_eq_true rfl) dX9_isNoResult_37
theorem dX9_bend_0 : decode cX9_bend 0 = .ok (.aload_n 0, 1) := by decide +kernel
theorem dX9_bend_1 : decode cX9_bend 1 = .ok (.aload_n 0, 1) := by decide +kernel
theorem dX9_bend_2 : decode cX9_bend 2 = .ok (.iload_n 1, 1) := by decide +kernel
theorem dX9_bend_3 : decode cX9_bend 3 = .ok (.iload_n 2, 1) := by decide +kernel
theorem dX9_bend_4 : decode cX9_bend 4 = .ok (.invokevirtual 228, 3) := by decide +kernel
theorem dX9_bend_7 : decode cX9_bend 7 = .ok (.iconst 1, 1) := by decide +kernel
theorem dX9_bend_8 : decode cX9_bend 8 = .ok (.invokevirtual 79, 3) := by decide +kernel
theorem dX9_bend_11 : decode cX9_bend 11 = .ok (.ifCond .ne 29, 3) := by decide +kernel
theorem dX9_bend_14 : decode cX9_bend 14 = .ok (.aload_n 0, 1) := by decide +kernel
theorem dX9_bend_15 : decode cX9_bend 15 = .ok (.iload_n 3, 1) := by decide +kernel
theorem dX9_bend_16 : decode cX9_bend 16 = .ok (.sipush (-999), 3) := by decide +kernel
theorem dX9_bend_19 : decode cX9_bend 19 = .ok (.sipush 999, 3) := by decide +kernel
theorem dX9_bend_22 : decode cX9_bend 22 = .ok (.invokestatic 75, 3) := by decide +kernel
theorem dX9_bend_25 : decode cX9_bend 25 = .ok (.ifCond .ne 7, 3) := by decide +kernel
theorem dX9_bend_28 : decode cX9_bend 28 = .ok (.iconst 1, 1) := by decide +kernel
theorem dX9_bend_29 : decode cX9_bend 29 = .ok (.goto 4, 3) := by decide +kernel
theorem dX9_bend_32 : decode cX9_bend 32 = .ok (.iconst 0, 1) := by decide +kernel
theorem dX9_bend_33 : decode cX9_bend 33 = .ok (.iconst 2, 1) := by decide +kernel
theorem dX9_bend_34 : decode cX9_bend 34 = .ok (.invokevirtual 67, 3) := by decide +kernel
theorem dX9_bend_37 : decode cX9_bend 37 = .ok (.ifCond .eq 5, 3) := by decide +kernel
theorem dX9_bend_40 : decode cX9_bend 40 = .ok (.iconst 0, 1) := by decide +kernel
theorem dX9_bend_41 : decode cX9_bend 41 = .ok (.ireturn, 1) := by decide +kernel
theorem dX9_bend_42 : decode cX9_bend 42 = .ok (.aload_n 0, 1) := by decide +kernel
theorem dX9_bend_43 : decode cX9_bend 43 = .ok (.getfield 38, 3) := by decide +kernel
theorem dX9_bend_46 : decode cX9_bend 46 = .ok (.iload_n 1, 1) := by decide +kernel
theorem dX9_bend_47 : decode cX9_bend 47 = .ok (.aaload, 1) := by decide +kernel
theorem dX9_bend_48 : decode cX9_bend 48 = .ok (.iload_n 2, 1) := by decide +kernel
theorem dX9_bend_49 : decode cX9_bend 49 = .ok (.dup2, 1) := by decide +kernel
theorem dX9_bend_50 : decode cX9_bend 50 = .ok (.iaload, 1) := by decide +kernel
theorem dX9_bend_51 : decode cX9_bend 51 = .ok (.iload_n 3, 1) := by decide +kernel
theorem dX9_bend_52 : decode cX9_bend 52 = .ok (.iadd, 1) := by decide +kernel
theorem dX9_bend_53 : decode cX9_bend 53 = .ok (.iastore, 1) := by decide +kernel
theorem dX9_bend_54 : decode cX9_bend 54 = .ok (.aload_n 0, 1) := by decide +kernel
theorem dX9_bend_55 : decode cX9_bend 55 = .ok (.getfield 38, 3) := by decide +kernel
theorem dX9_bend_58 : decode cX9_bend 58 = .ok (.iload_n 1, 1) := by decide +kernel
theorem dX9_bend_59 : decode cX9_bend 59 = .ok (.aaload, 1) := by decide +kernel
theorem dX9_bend_60 : decode cX9_bend 60 = .ok (.iload_n 2, 1) := by decide +kernel
theorem dX9_bend_61 : decode cX9_bend 61 = .ok (.iaload, 1) := by decide +kernel
theorem dX9_bend_62 : decode cX9_bend 62 = .ok (.ireturn, 1) := by decide +kernel
def fX9_bend_i (gRn : Nat) (gRk : Nat) (gRG : Nat → Nat → Int32) (i1 : Int32) (i2 : Int32) (i3 : Int32) : Option (Int32 × Int32 × (Nat → Nat → Int32)) := ((fX9_isNoResult_i gRn gRk i1 i2).bind fun x_1 => ((fX9_start_i x_1 1).bind fun x_5 => (if x_5.1 = 0 then ((fX9_isIn i3 (-999) 999).bind fun x_10 => ((((if x_10 = 0 then some 1 else some 0) : Option (Int32))).bind fun r_15 => ((fX9_refuse_i x_5.2 r_15 2).bind fun x_16 => (if x_16.1 = 0 then (if ¬ (i1 < 0 ∨ gRn ≤ i1.toNatClampNeg) then (if ¬ (i2 < 0 ∨ gRk ≤ i2.toNatClampNeg) then (if ¬ (i2 < 0 ∨ gRk ≤ i2.toNatClampNeg) then (if ¬ (i1 < 0 ∨ gRn ≤ i1.toNatClampNeg) then (if ¬ (i2 < 0 ∨ gRk ≤ i2.toNatClampNeg) then some ((upg gRG i1.toNatClampNeg i2.toNatClampNeg ((gRG i1.toNatClampNeg i2.toNatClampNeg) + i3)) i1.toNatClampNeg i2.toNatClampNeg, x_16.2, upg gRG i1.toNatClampNeg i2.toNatClampNeg ((gRG i1.toNatClampNeg i2.toNatClampNeg) + i3)) else none) else none) else none) else none) else none) else some (0, x_16.2, gRG))))) else some (0, x_5.2, gRG))))
abbrev hX9_bend : Cond := .code yX9_bend cX9_bend 4 (some .int)
theorem mX9_bend : yM yX9_bend hX9_bend 3 := ⟨u_1487, u_64, by decide +kernel, by decide +kernel, by decide +kernel⟩
set_option maxHeartbeats 4000000 in
set_option maxRecDepth 100000 in
theorem kX9_bend_i (l : Launch) (D : va_G) (cy : Nat → ClassId) (g : Nat) (gth : Int32) (gw : Nat) (gB : Nat) (gK : Nat) (gU : Nat) (gS : Nat) (gbe : Int32) (gwo : Int32) (gta : Int64) (glr : Int32) (glc : Int32) (gti : Int32) (ggo : Int32) (gR : Nat) (gch : Int32) (gD : Nat) (gRd : Nat → Nat) (gRn : Nat) (gRk : Nat) (gRG : Nat → Nat → Int32) (i1 : Int32) (i2 : Int32) (i3 : Int32) {res : Int32 × Int32 × (Nat → Nat → Int32)} (hR : fX9_bend_i gRn gRk gRG i1 i2 i3 = some res) : YM l D cy yX9_bend hX9_bend 3 0 0 [.ref g, .int i1, .int i2, .int i3] [[(g, .inr (11, [.int gth, .ref gw, .ref gB, .ref gK, .ref gU, .ref gS, .int gbe, .int gwo, .long gta, .null, .int glr, .int glc, .int gti, .int ggo, .ref gR, .int gch, .ref gD]))], [(gR, .inl (cy 3, gRn, .inr (.inr (.inr (.inr (yad gRd))))))], xg_rows gRd gRn (cy 1) gRk gRG] (fun v u => v = some (.int res.1) ∧ u = [[(g, .inr (11, [.int res.2.1, .ref gw, .ref gB, .ref gK, .ref gU, .ref gS, .int gbe, .int gwo, .long gta, .null, .int glr, .int glc, .int gti, .int ggo, .ref gR, .int gch, .ref gD]))], [(gR, .inl (cy 3, gRn, .inr (.inr (.inr (.inr (yad gRd))))))], xg_rows gRd gRn (cy 1) gRk res.2.2]) := by
  unfold fX9_bend_i at hR
  refine YM.ofI (cc := cX9_bend) (maxL := 4) (ret := (some .int)) (by decide +kernel) rfl (Nat.le_of_ble_eq_true rfl) [(0, .ref g), (1, .int i1), (2, .int i2), (3, .int i3)] rfl rfl (fun p e s m args below meth c A H0 Q C hnm ret => ?_)
  refine xr_aload_n (n := 1) (j := 0) C dX9_bend_0 rfl rfl ?_
  refine xr_aload_n (n := 2) (j := 0) C dX9_bend_1 rfl rfl ?_
  refine xr_iload_n (n := 3) (j := 1) C dX9_bend_2 rfl rfl ?_
  refine xr_iload_n (n := 4) (j := 2) C dX9_bend_3 rfl rfl ?_
  obtain ⟨x_1, hx_1, hR⟩ := yf_b hR
  refine xr_callVp (n := 7) (As := [.int i1, .int i2]) (rest := [.ref g]) C (kX9_isNoResult_i l D cy (g := g) (gth := gth) (gw := gw) (gB := gB) (gK := gK) (gU := gU) (gS := gS) (gbe := gbe) (gwo := gwo) (gta := gta) (glr := glr) (glc := glc) (gti := gti) (ggo := ggo) (gR := gR) (gch := gch) (gD := gD) (gRd := gRd) (gRn := gRn) (gRk := gRk) (gRG := gRG) (i1 := i1) (i2 := i2) hx_1) mX9_isNoResult u_1488 u_1490 u_45 0 rfl rfl 3 [0, 1, 2] [] rfl (by decide +kernel) rfl rfl rfl rfl (Nat.le_of_ble_eq_true rfl) (Nat.le_of_ble_eq_true rfl) (Nat.le_of_ble_eq_true rfl) (Nat.le_of_ble_eq_true rfl) (Nat.le_of_ble_eq_true rfl) dX9_bend_4 rfl (fun _ _ hp => hp.2) (fun v_2 hp_4 => ?_)
  obtain ⟨rfl, -⟩ := hp_4
  refine xr_st (st' := [.int x_1, .ref g]) rfl ?_
  refine xr_iconst (n := 8) (v := 1) C dX9_bend_7 rfl rfl ?_
  obtain ⟨x_5, hx_5, hR⟩ := yf_b hR
  refine xr_callV (n := 11) (As := [.int x_1, .int 1]) (rest := []) C (kX9_start_i l D cy (g := g) (gth := gth) (gw := gw) (gB := gB) (gK := gK) (gU := gU) (gS := gS) (gbe := gbe) (gwo := gwo) (gta := gta) (glr := glr) (glc := glc) (gti := gti) (ggo := ggo) (gR := gR) (gch := gch) (gD := gD) (i1 := x_1) (i2 := 1) hx_5) mX9_start u_1301 u_1303 u_29 0 rfl rfl 3 [0] [1, 2] rfl (by decide +kernel) rfl rfl rfl rfl (Nat.le_of_ble_eq_true rfl) (Nat.le_of_ble_eq_true rfl) (Nat.le_of_ble_eq_true rfl) (Nat.le_of_ble_eq_true rfl) (Nat.le_of_ble_eq_true rfl) dX9_bend_8 rfl (fun v_6 u_7 hp_8 => ?_)
  obtain ⟨rfl, rfl⟩ := hp_8
  refine xr_perm C 3 [0, 1, 2] [] [[(g, .inr (11, [.int x_5.2, .ref gw, .ref gB, .ref gK, .ref gU, .ref gS, .int gbe, .int gwo, .long gta, .null, .int glr, .int glc, .int gti, .int ggo, .ref gR, .int gch, .ref gD]))], [(gR, .inl (cy 3, gRn, .inr (.inr (.inr (.inr (yad gRd))))))], xg_rows gRd gRn (cy 1) gRk gRG] rfl (by decide +kernel) rfl ?_
  refine xr_st (st' := [.int x_5.1]) rfl ?_
  refine xr_if_ne (tgt := 40) (n := 14) C dX9_bend_11 rfl rfl (fun c_9 => ?_) (fun c_9 => ?_)
  · replace hR := yf_f c_9 hR
    refine xr_iconst (n := 41) (v := 0) C dX9_bend_40 rfl rfl ?_
    obtain rfl := Option.some.inj hR
    exact ret 0 ⟨rfl, rfl⟩ (Nat.le_of_ble_eq_true rfl) (Nat.le_of_ble_eq_true rfl) dX9_bend_41
  · replace hR := yf_t c_9 hR
    refine xr_aload_n (n := 15) (j := 0) C dX9_bend_14 rfl rfl ?_
    refine xr_iload_n (n := 16) (j := 3) C dX9_bend_15 rfl rfl ?_
    refine xr_sipush (n := 19) (v := -999) C dX9_bend_16 rfl rfl ?_
    refine xr_sipush (n := 22) (v := 999) C dX9_bend_19 rfl rfl ?_
    obtain ⟨x_10, hx_10, hR⟩ := yf_b hR
    refine xr_callSp (n := 25) (As := [.int i3, .int (-999), .int 999]) (rest := [.ref g]) C (kX9_isIn l D cy (i1 := i3) (i2 := -999) (i3 := 999) hx_10) mX9_isIn u_1298 u_1299 3 [] [0, 1, 2] rfl (by decide +kernel) rfl rfl rfl rfl (Nat.le_of_ble_eq_true rfl) (Nat.le_of_ble_eq_true rfl) (Nat.le_of_ble_eq_true rfl) (Nat.le_of_ble_eq_true rfl) (Nat.le_of_ble_eq_true rfl) dX9_bend_22 rfl (fun _ _ hp => hp.2) (fun v_11 hp_13 => ?_)
    obtain ⟨rfl, -⟩ := hp_13
    refine xr_st (st' := [.int x_10, .ref g]) rfl ?_
    obtain ⟨r_15, hE_15, hR⟩ := yf_b hR
    have J_15 : X p l e (yR 3 0 0) s m args below meth c D A H0 4 Q [[(g, .inr (11, [.int x_5.2, .ref gw, .ref gB, .ref gK, .ref gU, .ref gS, .int gbe, .int gwo, .long gta, .null, .int glr, .int glc, .int gti, .int ggo, .ref gR, .int gch, .ref gD]))], [(gR, .inl (cy 3, gRn, .inr (.inr (.inr (.inr (yad gRd))))))], xg_rows gRd gRn (cy 1) gRk gRG] 0 0 [(0, .ref g), (1, .int i1), (2, .int i2), (3, .int i3)] 33 [.int r_15, .ref g] := by
      refine xr_iconst (n := 34) (v := 2) C dX9_bend_33 rfl rfl ?_
      obtain ⟨x_16, hx_16, hR⟩ := yf_b hR
      refine xr_callV (n := 37) (As := [.int r_15, .int 2]) (rest := []) C (kX9_refuse_i l D cy (g := g) (gth := x_5.2) (gw := gw) (gB := gB) (gK := gK) (gU := gU) (gS := gS) (gbe := gbe) (gwo := gwo) (gta := gta) (glr := glr) (glc := glc) (gti := gti) (ggo := ggo) (gR := gR) (gch := gch) (gD := gD) (i1 := r_15) (i2 := 2) hx_16) mX9_refuse u_1305 u_1307 u_30 0 rfl rfl 3 [0] [1, 2] rfl (by decide +kernel) rfl rfl rfl rfl (Nat.le_of_ble_eq_true rfl) (Nat.le_of_ble_eq_true rfl) (Nat.le_of_ble_eq_true rfl) (Nat.le_of_ble_eq_true rfl) (Nat.le_of_ble_eq_true rfl) dX9_bend_34 rfl (fun v_17 u_18 hp_19 => ?_)
      obtain ⟨rfl, rfl⟩ := hp_19
      refine xr_perm C 3 [0, 1, 2] [] [[(g, .inr (11, [.int x_16.2, .ref gw, .ref gB, .ref gK, .ref gU, .ref gS, .int gbe, .int gwo, .long gta, .null, .int glr, .int glc, .int gti, .int ggo, .ref gR, .int gch, .ref gD]))], [(gR, .inl (cy 3, gRn, .inr (.inr (.inr (.inr (yad gRd))))))], xg_rows gRd gRn (cy 1) gRk gRG] rfl (by decide +kernel) rfl ?_
      refine xr_st (st' := [.int x_16.1]) rfl ?_
      refine xr_if_eq (tgt := 42) (n := 40) C dX9_bend_37 rfl rfl (fun c_20 => ?_) (fun c_20 => ?_)
      · replace hR := yf_t c_20 hR
        refine xr_aload_n (n := 43) (j := 0) C dX9_bend_42 rfl rfl ?_
        refine xr_get (n := 46) C 0 rfl rfl 14 (by decide) in_X9 u_1251 rfl (v := .ref gR) rfl dX9_bend_43 rfl ?_
        refine xr_iload_n (n := 47) (j := 1) C dX9_bend_46 rfl rfl ?_
        obtain ⟨g_21, hR⟩ := yf_g hR
        refine xr_aald (n := 48) C 1 0 rfl 3 rfl rfl g_21 rfl dX9_bend_47 rfl ?_
        refine xr_iload_n (n := 49) (j := 2) C dX9_bend_48 rfl rfl ?_
        refine xr_dup2 (n := 50) C dX9_bend_49 rfl rfl rfl ?_
        obtain ⟨g_22, hR⟩ := yf_g hR
        refine xr_ialdg (n := 51) C 2 rfl i1.toNatClampNeg (ylt g_21) g_22 dX9_bend_50 rfl ?_
        refine xr_iload_n (n := 52) (j := 3) C dX9_bend_51 rfl rfl ?_
        refine xr_iadd (n := 53) C dX9_bend_52 rfl ?_
        obtain ⟨g_23, hR⟩ := yf_g hR
        refine xr_iastg (n := 54) C 2 rfl i1.toNatClampNeg (ylt g_21) g_23 [[(g, .inr (11, [.int x_16.2, .ref gw, .ref gB, .ref gK, .ref gU, .ref gS, .int gbe, .int gwo, .long gta, .null, .int glr, .int glc, .int gti, .int ggo, .ref gR, .int gch, .ref gD]))], [(gR, .inl (cy 3, gRn, .inr (.inr (.inr (.inr (yad gRd))))))], xg_rows gRd gRn (cy 1) gRk (upg gRG i1.toNatClampNeg i2.toNatClampNeg ((gRG i1.toNatClampNeg i2.toNatClampNeg) + i3))] rfl dX9_bend_53 rfl ?_
        refine xr_aload_n (n := 55) (j := 0) C dX9_bend_54 rfl rfl ?_
        refine xr_get (n := 58) C 0 rfl rfl 14 (by decide) in_X9 u_1251 rfl (v := .ref gR) rfl dX9_bend_55 rfl ?_
        refine xr_iload_n (n := 59) (j := 1) C dX9_bend_58 rfl rfl ?_
        obtain ⟨g_24, hR⟩ := yf_g hR
        refine xr_aald (n := 60) C 1 0 rfl 3 rfl rfl g_24 rfl dX9_bend_59 rfl ?_
        refine xr_iload_n (n := 61) (j := 2) C dX9_bend_60 rfl rfl ?_
        obtain ⟨g_25, hR⟩ := yf_g hR
        refine xr_ialdg (n := 62) C 2 rfl i1.toNatClampNeg (ylt g_24) g_25 dX9_bend_61 rfl ?_
        obtain rfl := Option.some.inj hR
        exact ret ((upg gRG i1.toNatClampNeg i2.toNatClampNeg ((gRG i1.toNatClampNeg i2.toNatClampNeg) + i3)) i1.toNatClampNeg i2.toNatClampNeg) ⟨rfl, rfl⟩ (Nat.le_of_ble_eq_true rfl) (Nat.le_of_ble_eq_true rfl) dX9_bend_62
      · replace hR := yf_f c_20 hR
        refine xr_iconst (n := 41) (v := 0) C dX9_bend_40 rfl rfl ?_
        obtain rfl := Option.some.inj hR
        exact ret 0 ⟨rfl, rfl⟩ (Nat.le_of_ble_eq_true rfl) (Nat.le_of_ble_eq_true rfl) dX9_bend_41
    refine xr_if_ne (tgt := 32) (n := 28) C dX9_bend_25 rfl rfl (fun c_26 => ?_) (fun c_26 => ?_)
    · replace hE_15 := yf_f c_26 hE_15
      refine xr_iconst (n := 33) (v := 0) C dX9_bend_32 rfl rfl ?_
      have e_27 := Option.some.inj hE_15
      subst e_27
      exact J_15
    · replace hE_15 := yf_t c_26 hE_15
      refine xr_iconst (n := 29) (v := 1) C dX9_bend_28 rfl rfl ?_
      refine xr_goto (tgt := 33) C dX9_bend_29 rfl ?_
      have e_28 := Option.some.inj hE_15
      subst e_28
      exact J_15
def fX9_bend_r (gRn : Nat) (gRk : Nat) (gRG : Nat → Nat → Int32) (i1 : Int32) (i2 : Int32) (i3 : Int32) : Option (Int32 × Int32 × (Nat → Nat → Int32)) := ((fX9_isNoResult_r gRn gRk i1 i2).bind fun x_1 => ((fX9_start_r x_1 1).bind fun x_5 => (if x_5.1 = 0 then ((fX9_isIn i3 (-999) 999).bind fun x_10 => ((((if x_10 = 0 then some 1 else some 0) : Option (Int32))).bind fun r_15 => ((fX9_refuse_r x_5.2 r_15 2).bind fun x_16 => (if x_16.1 = 0 then (if ¬ (i1 < 0 ∨ gRn ≤ i1.toNatClampNeg) then (if ¬ (i2 < 0 ∨ gRk ≤ i2.toNatClampNeg) then (if ¬ (i2 < 0 ∨ gRk ≤ i2.toNatClampNeg) then (if ¬ (i1 < 0 ∨ gRn ≤ i1.toNatClampNeg) then (if ¬ (i2 < 0 ∨ gRk ≤ i2.toNatClampNeg) then some ((upg gRG i1.toNatClampNeg i2.toNatClampNeg ((gRG i1.toNatClampNeg i2.toNatClampNeg) + i3)) i1.toNatClampNeg i2.toNatClampNeg, x_16.2, upg gRG i1.toNatClampNeg i2.toNatClampNeg ((gRG i1.toNatClampNeg i2.toNatClampNeg) + i3)) else none) else none) else none) else none) else none) else some (0, x_16.2, gRG))))) else some (0, x_5.2, gRG))))
set_option maxHeartbeats 4000000 in
set_option maxRecDepth 100000 in
theorem kX9_bend_r (l : Launch) (D : va_G) (cy : Nat → ClassId) (g : Nat) (gth : Int32) (gw : Nat) (gB : Nat) (gK : Nat) (gU : Nat) (gS : Nat) (gbe : Int32) (gwo : Int32) (gta : Int64) (gn : Nat) (glr : Int32) (glc : Int32) (gti : Int32) (ggo : Int32) (gR : Nat) (gch : Int32) (gD : Nat) (gRd : Nat → Nat) (gRn : Nat) (gRk : Nat) (gRG : Nat → Nat → Int32) (i1 : Int32) (i2 : Int32) (i3 : Int32) {res : Int32 × Int32 × (Nat → Nat → Int32)} (hR : fX9_bend_r gRn gRk gRG i1 i2 i3 = some res) : YM l D cy yX9_bend hX9_bend 3 0 0 [.ref g, .int i1, .int i2, .int i3] [[(g, .inr (11, [.int gth, .ref gw, .ref gB, .ref gK, .ref gU, .ref gS, .int gbe, .int gwo, .long gta, .ref gn, .int glr, .int glc, .int gti, .int ggo, .ref gR, .int gch, .ref gD]))], [(gR, .inl (cy 3, gRn, .inr (.inr (.inr (.inr (yad gRd))))))], xg_rows gRd gRn (cy 1) gRk gRG] (fun v u => v = some (.int res.1) ∧ u = [[(g, .inr (11, [.int res.2.1, .ref gw, .ref gB, .ref gK, .ref gU, .ref gS, .int gbe, .int gwo, .long gta, .ref gn, .int glr, .int glc, .int gti, .int ggo, .ref gR, .int gch, .ref gD]))], [(gR, .inl (cy 3, gRn, .inr (.inr (.inr (.inr (yad gRd))))))], xg_rows gRd gRn (cy 1) gRk res.2.2]) := by
  unfold fX9_bend_r at hR
  refine YM.ofI (cc := cX9_bend) (maxL := 4) (ret := (some .int)) (by decide +kernel) rfl (Nat.le_of_ble_eq_true rfl) [(0, .ref g), (1, .int i1), (2, .int i2), (3, .int i3)] rfl rfl (fun p e s m args below meth c A H0 Q C hnm ret => ?_)
  refine xr_aload_n (n := 1) (j := 0) C dX9_bend_0 rfl rfl ?_
  refine xr_aload_n (n := 2) (j := 0) C dX9_bend_1 rfl rfl ?_
  refine xr_iload_n (n := 3) (j := 1) C dX9_bend_2 rfl rfl ?_
  refine xr_iload_n (n := 4) (j := 2) C dX9_bend_3 rfl rfl ?_
  obtain ⟨x_1, hx_1, hR⟩ := yf_b hR
  refine xr_callVp (n := 7) (As := [.int i1, .int i2]) (rest := [.ref g]) C (kX9_isNoResult_r l D cy (g := g) (gth := gth) (gw := gw) (gB := gB) (gK := gK) (gU := gU) (gS := gS) (gbe := gbe) (gwo := gwo) (gta := gta) (gn := gn) (glr := glr) (glc := glc) (gti := gti) (ggo := ggo) (gR := gR) (gch := gch) (gD := gD) (gRd := gRd) (gRn := gRn) (gRk := gRk) (gRG := gRG) (i1 := i1) (i2 := i2) hx_1) mX9_isNoResult u_1488 u_1490 u_45 0 rfl rfl 3 [0, 1, 2] [] rfl (by decide +kernel) rfl rfl rfl rfl (Nat.le_of_ble_eq_true rfl) (Nat.le_of_ble_eq_true rfl) (Nat.le_of_ble_eq_true rfl) (Nat.le_of_ble_eq_true rfl) (Nat.le_of_ble_eq_true rfl) dX9_bend_4 rfl (fun _ _ hp => hp.2) (fun v_2 hp_4 => ?_)
  obtain ⟨rfl, -⟩ := hp_4
  refine xr_st (st' := [.int x_1, .ref g]) rfl ?_
  refine xr_iconst (n := 8) (v := 1) C dX9_bend_7 rfl rfl ?_
  obtain ⟨x_5, hx_5, hR⟩ := yf_b hR
  refine xr_callV (n := 11) (As := [.int x_1, .int 1]) (rest := []) C (kX9_start_r l D cy (g := g) (gth := gth) (gw := gw) (gB := gB) (gK := gK) (gU := gU) (gS := gS) (gbe := gbe) (gwo := gwo) (gta := gta) (gn := gn) (glr := glr) (glc := glc) (gti := gti) (ggo := ggo) (gR := gR) (gch := gch) (gD := gD) (i1 := x_1) (i2 := 1) hx_5) mX9_start u_1301 u_1303 u_29 0 rfl rfl 3 [0] [1, 2] rfl (by decide +kernel) rfl rfl rfl rfl (Nat.le_of_ble_eq_true rfl) (Nat.le_of_ble_eq_true rfl) (Nat.le_of_ble_eq_true rfl) (Nat.le_of_ble_eq_true rfl) (Nat.le_of_ble_eq_true rfl) dX9_bend_8 rfl (fun v_6 u_7 hp_8 => ?_)
  obtain ⟨rfl, rfl⟩ := hp_8
  refine xr_perm C 3 [0, 1, 2] [] [[(g, .inr (11, [.int x_5.2, .ref gw, .ref gB, .ref gK, .ref gU, .ref gS, .int gbe, .int gwo, .long gta, .ref gn, .int glr, .int glc, .int gti, .int ggo, .ref gR, .int gch, .ref gD]))], [(gR, .inl (cy 3, gRn, .inr (.inr (.inr (.inr (yad gRd))))))], xg_rows gRd gRn (cy 1) gRk gRG] rfl (by decide +kernel) rfl ?_
  refine xr_st (st' := [.int x_5.1]) rfl ?_
  refine xr_if_ne (tgt := 40) (n := 14) C dX9_bend_11 rfl rfl (fun c_9 => ?_) (fun c_9 => ?_)
  · replace hR := yf_f c_9 hR
    refine xr_iconst (n := 41) (v := 0) C dX9_bend_40 rfl rfl ?_
    obtain rfl := Option.some.inj hR
    exact ret 0 ⟨rfl, rfl⟩ (Nat.le_of_ble_eq_true rfl) (Nat.le_of_ble_eq_true rfl) dX9_bend_41
  · replace hR := yf_t c_9 hR
    refine xr_aload_n (n := 15) (j := 0) C dX9_bend_14 rfl rfl ?_
    refine xr_iload_n (n := 16) (j := 3) C dX9_bend_15 rfl rfl ?_
    refine xr_sipush (n := 19) (v := -999) C dX9_bend_16 rfl rfl ?_
    refine xr_sipush (n := 22) (v := 999) C dX9_bend_19 rfl rfl ?_
    obtain ⟨x_10, hx_10, hR⟩ := yf_b hR
    refine xr_callSp (n := 25) (As := [.int i3, .int (-999), .int 999]) (rest := [.ref g]) C (kX9_isIn l D cy (i1 := i3) (i2 := -999) (i3 := 999) hx_10) mX9_isIn u_1298 u_1299 3 [] [0, 1, 2] rfl (by decide +kernel) rfl rfl rfl rfl (Nat.le_of_ble_eq_true rfl) (Nat.le_of_ble_eq_true rfl) (Nat.le_of_ble_eq_true rfl) (Nat.le_of_ble_eq_true rfl) (Nat.le_of_ble_eq_true rfl) dX9_bend_22 rfl (fun _ _ hp => hp.2) (fun v_11 hp_13 => ?_)
    obtain ⟨rfl, -⟩ := hp_13
    refine xr_st (st' := [.int x_10, .ref g]) rfl ?_
    obtain ⟨r_15, hE_15, hR⟩ := yf_b hR
    have J_15 : X p l e (yR 3 0 0) s m args below meth c D A H0 4 Q [[(g, .inr (11, [.int x_5.2, .ref gw, .ref gB, .ref gK, .ref gU, .ref gS, .int gbe, .int gwo, .long gta, .ref gn, .int glr, .int glc, .int gti, .int ggo, .ref gR, .int gch, .ref gD]))], [(gR, .inl (cy 3, gRn, .inr (.inr (.inr (.inr (yad gRd))))))], xg_rows gRd gRn (cy 1) gRk gRG] 0 0 [(0, .ref g), (1, .int i1), (2, .int i2), (3, .int i3)] 33 [.int r_15, .ref g] := by
      refine xr_iconst (n := 34) (v := 2) C dX9_bend_33 rfl rfl ?_
      obtain ⟨x_16, hx_16, hR⟩ := yf_b hR
      refine xr_callV (n := 37) (As := [.int r_15, .int 2]) (rest := []) C (kX9_refuse_r l D cy (g := g) (gth := x_5.2) (gw := gw) (gB := gB) (gK := gK) (gU := gU) (gS := gS) (gbe := gbe) (gwo := gwo) (gta := gta) (gn := gn) (glr := glr) (glc := glc) (gti := gti) (ggo := ggo) (gR := gR) (gch := gch) (gD := gD) (i1 := r_15) (i2 := 2) hx_16) mX9_refuse u_1305 u_1307 u_30 0 rfl rfl 3 [0] [1, 2] rfl (by decide +kernel) rfl rfl rfl rfl (Nat.le_of_ble_eq_true rfl) (Nat.le_of_ble_eq_true rfl) (Nat.le_of_ble_eq_true rfl) (Nat.le_of_ble_eq_true rfl) (Nat.le_of_ble_eq_true rfl) dX9_bend_34 rfl (fun v_17 u_18 hp_19 => ?_)
      obtain ⟨rfl, rfl⟩ := hp_19
      refine xr_perm C 3 [0, 1, 2] [] [[(g, .inr (11, [.int x_16.2, .ref gw, .ref gB, .ref gK, .ref gU, .ref gS, .int gbe, .int gwo, .long gta, .ref gn, .int glr, .int glc, .int gti, .int ggo, .ref gR, .int gch, .ref gD]))], [(gR, .inl (cy 3, gRn, .inr (.inr (.inr (.inr (yad gRd))))))], xg_rows gRd gRn (cy 1) gRk gRG] rfl (by decide +kernel) rfl ?_
      refine xr_st (st' := [.int x_16.1]) rfl ?_
      refine xr_if_eq (tgt := 42) (n := 40) C dX9_bend_37 rfl rfl (fun c_20 => ?_) (fun c_20 => ?_)
      · replace hR := yf_t c_20 hR
        refine xr_aload_n (n := 43) (j := 0) C dX9_bend_42 rfl rfl ?_
        refine xr_get (n := 46) C 0 rfl rfl 14 (by decide) in_X9 u_1251 rfl (v := .ref gR) rfl dX9_bend_43 rfl ?_
        refine xr_iload_n (n := 47) (j := 1) C dX9_bend_46 rfl rfl ?_
        obtain ⟨g_21, hR⟩ := yf_g hR
        refine xr_aald (n := 48) C 1 0 rfl 3 rfl rfl g_21 rfl dX9_bend_47 rfl ?_
        refine xr_iload_n (n := 49) (j := 2) C dX9_bend_48 rfl rfl ?_
        refine xr_dup2 (n := 50) C dX9_bend_49 rfl rfl rfl ?_
        obtain ⟨g_22, hR⟩ := yf_g hR
        refine xr_ialdg (n := 51) C 2 rfl i1.toNatClampNeg (ylt g_21) g_22 dX9_bend_50 rfl ?_
        refine xr_iload_n (n := 52) (j := 3) C dX9_bend_51 rfl rfl ?_
        refine xr_iadd (n := 53) C dX9_bend_52 rfl ?_
        obtain ⟨g_23, hR⟩ := yf_g hR
        refine xr_iastg (n := 54) C 2 rfl i1.toNatClampNeg (ylt g_21) g_23 [[(g, .inr (11, [.int x_16.2, .ref gw, .ref gB, .ref gK, .ref gU, .ref gS, .int gbe, .int gwo, .long gta, .ref gn, .int glr, .int glc, .int gti, .int ggo, .ref gR, .int gch, .ref gD]))], [(gR, .inl (cy 3, gRn, .inr (.inr (.inr (.inr (yad gRd))))))], xg_rows gRd gRn (cy 1) gRk (upg gRG i1.toNatClampNeg i2.toNatClampNeg ((gRG i1.toNatClampNeg i2.toNatClampNeg) + i3))] rfl dX9_bend_53 rfl ?_
        refine xr_aload_n (n := 55) (j := 0) C dX9_bend_54 rfl rfl ?_
        refine xr_get (n := 58) C 0 rfl rfl 14 (by decide) in_X9 u_1251 rfl (v := .ref gR) rfl dX9_bend_55 rfl ?_
        refine xr_iload_n (n := 59) (j := 1) C dX9_bend_58 rfl rfl ?_
        obtain ⟨g_24, hR⟩ := yf_g hR
        refine xr_aald (n := 60) C 1 0 rfl 3 rfl rfl g_24 rfl dX9_bend_59 rfl ?_
        refine xr_iload_n (n := 61) (j := 2) C dX9_bend_60 rfl rfl ?_
        obtain ⟨g_25, hR⟩ := yf_g hR
        refine xr_ialdg (n := 62) C 2 rfl i1.toNatClampNeg (ylt g_24) g_25 dX9_bend_61 rfl ?_
        obtain rfl := Option.some.inj hR
        exact ret ((upg gRG i1.toNatClampNeg i2.toNatClampNeg ((gRG i1.toNatClampNeg i2.toNatClampNeg) + i3)) i1.toNatClampNeg i2.toNatClampNeg) ⟨rfl, rfl⟩ (Nat.le_of_ble_eq_true rfl) (Nat.le_of_ble_eq_true rfl) dX9_bend_62
      · replace hR := yf_f c_20 hR
        refine xr_iconst (n := 41) (v := 0) C dX9_bend_40 rfl rfl ?_
        obtain rfl := Option.some.inj hR
        exact ret 0 ⟨rfl, rfl⟩ (Nat.le_of_ble_eq_true rfl) (Nat.le_of_ble_eq_true rfl) dX9_bend_41
    refine xr_if_ne (tgt := 32) (n := 28) C dX9_bend_25 rfl rfl (fun c_26 => ?_) (fun c_26 => ?_)
    · replace hE_15 := yf_f c_26 hE_15
      refine xr_iconst (n := 33) (v := 0) C dX9_bend_32 rfl rfl ?_
      have e_27 := Option.some.inj hE_15
      subst e_27
      exact J_15
    · replace hE_15 := yf_t c_26 hE_15
      refine xr_iconst (n := 29) (v := 1) C dX9_bend_28 rfl rfl ?_
      refine xr_goto (tgt := 33) C dX9_bend_29 rfl ?_
      have e_28 := Option.some.inj hE_15
      subst e_28
      exact J_15
theorem dX9_off_0 : decode cX9_off 0 = .ok (.iload_n 1, 1) := by decide +kernel
theorem dX9_off_1 : decode cX9_off 1 = .ok (.ifCond .eq 13, 3) := by decide +kernel
theorem dX9_off_4 : decode cX9_off 4 = .ok (.aload_n 0, 1) := by decide +kernel
theorem dX9_off_5 : decode cX9_off 5 = .ok (.getfield 38, 3) := by decide +kernel
theorem dX9_off_8 : decode cX9_off 8 = .ok (.iconst 0, 1) := by decide +kernel
theorem dX9_off_9 : decode cX9_off 9 = .ok (.aaload, 1) := by decide +kernel
theorem dX9_off_10 : decode cX9_off 10 = .ok (.arraylength, 1) := by decide +kernel
theorem dX9_off_11 : decode cX9_off 11 = .ok (.goto 8, 3) := by decide +kernel
theorem dX9_off_14 : decode cX9_off 14 = .ok (.aload_n 0, 1) := by decide +kernel
theorem dX9_off_15 : decode cX9_off 15 = .ok (.getfield 38, 3) := by decide +kernel
theorem dX9_off_18 : decode cX9_off 18 = .ok (.arraylength, 1) := by decide +kernel
theorem dX9_off_19 : decode cX9_off 19 = .ok (.istore_n 3, 1) := by decide +kernel
theorem dX9_off_20 : decode cX9_off 20 = .ok (.iconst 0, 1) := by decide +kernel
theorem dX9_off_21 : decode cX9_off 21 = .ok (.istore 4, 2) := by decide +kernel
theorem dX9_off_23 : decode cX9_off 23 = .ok (.iconst 0, 1) := by decide +kernel
theorem dX9_off_24 : decode cX9_off 24 = .ok (.istore 5, 2) := by decide +kernel
theorem dX9_off_26 : decode cX9_off 26 = .ok (.iload 5, 2) := by decide +kernel
theorem dX9_off_28 : decode cX9_off 28 = .ok (.iload_n 3, 1) := by decide +kernel
theorem dX9_off_29 : decode cX9_off 29 = .ok (.if_icmp .ge 57, 3) := by decide +kernel
theorem dX9_off_32 : decode cX9_off 32 = .ok (.iload_n 1, 1) := by decide +kernel
theorem dX9_off_33 : decode cX9_off 33 = .ok (.ifCond .eq 15, 3) := by decide +kernel
theorem dX9_off_36 : decode cX9_off 36 = .ok (.aload_n 0, 1) := by decide +kernel
theorem dX9_off_37 : decode cX9_off 37 = .ok (.getfield 38, 3) := by decide +kernel
theorem dX9_off_40 : decode cX9_off 40 = .ok (.iload_n 2, 1) := by decide +kernel
theorem dX9_off_41 : decode cX9_off 41 = .ok (.aaload, 1) := by decide +kernel
theorem dX9_off_42 : decode cX9_off 42 = .ok (.iload 5, 2) := by decide +kernel
theorem dX9_off_44 : decode cX9_off 44 = .ok (.iaload, 1) := by decide +kernel
theorem dX9_off_45 : decode cX9_off 45 = .ok (.goto 12, 3) := by decide +kernel
theorem dX9_off_48 : decode cX9_off 48 = .ok (.aload_n 0, 1) := by decide +kernel
theorem dX9_off_49 : decode cX9_off 49 = .ok (.getfield 38, 3) := by decide +kernel
theorem dX9_off_52 : decode cX9_off 52 = .ok (.iload 5, 2) := by decide +kernel
theorem dX9_off_54 : decode cX9_off 54 = .ok (.aaload, 1) := by decide +kernel
theorem dX9_off_55 : decode cX9_off 55 = .ok (.iload_n 2, 1) := by decide +kernel
theorem dX9_off_56 : decode cX9_off 56 = .ok (.iaload, 1) := by decide +kernel
theorem dX9_off_57 : decode cX9_off 57 = .ok (.istore 6, 2) := by decide +kernel
theorem dX9_off_59 : decode cX9_off 59 = .ok (.iload 4, 2) := by decide +kernel
theorem dX9_off_61 : decode cX9_off 61 = .ok (.iload 5, 2) := by decide +kernel
theorem dX9_off_63 : decode cX9_off 63 = .ok (.iload_n 3, 1) := by decide +kernel
theorem dX9_off_64 : decode cX9_off 64 = .ok (.iconst 1, 1) := by decide +kernel
theorem dX9_off_65 : decode cX9_off 65 = .ok (.isub, 1) := by decide +kernel
theorem dX9_off_66 : decode cX9_off 66 = .ok (.if_icmp .ne 8, 3) := by decide +kernel
theorem dX9_off_69 : decode cX9_off 69 = .ok (.iload 6, 2) := by decide +kernel
theorem dX9_off_71 : decode cX9_off 71 = .ok (.goto 6, 3) := by decide +kernel
theorem dX9_off_74 : decode cX9_off 74 = .ok (.iload 6, 2) := by decide +kernel
theorem dX9_off_76 : decode cX9_off 76 = .ok (.ineg, 1) := by decide +kernel
theorem dX9_off_77 : decode cX9_off 77 = .ok (.iadd, 1) := by decide +kernel
theorem dX9_off_78 : decode cX9_off 78 = .ok (.istore 4, 2) := by decide +kernel
theorem dX9_off_80 : decode cX9_off 80 = .ok (.iinc 5 1, 3) := by decide +kernel
theorem dX9_off_83 : decode cX9_off 83 = .ok (.goto (-57), 3) := by decide +kernel
theorem dX9_off_86 : decode cX9_off 86 = .ok (.iload 4, 2) := by decide +kernel
theorem dX9_off_88 : decode cX9_off 88 = .ok (.ireturn, 1) := by decide +kernel
def fX9_off_i (gRn : Nat) (gRk : Nat) (gRG : Nat → Nat → Int32) (i1 : Int32) (i2 : Int32) : Option (Int32) := ((((if i1 = 0 then some (nI gRn) else (if ¬ ((0 : Int32) < 0 ∨ gRn ≤ (0 : Int32).toNatClampNeg) then some (nI gRk) else none)) : Option (Int32))).bind fun r_3 => ((wl (S := Int32 × Int32) (B := Int32 × Int32) (fun s_4 => (if r_3 ≤ s_4.2 then some (.inr (s_4.1, s_4.2)) else ((((if i1 = 0 then (if ¬ (s_4.2 < 0 ∨ gRn ≤ s_4.2.toNatClampNeg) then (if ¬ (i2 < 0 ∨ gRk ≤ i2.toNatClampNeg) then some (gRG s_4.2.toNatClampNeg i2.toNatClampNeg) else none) else none) else (if ¬ (i2 < 0 ∨ gRn ≤ i2.toNatClampNeg) then (if ¬ (s_4.2 < 0 ∨ gRk ≤ s_4.2.toNatClampNeg) then some (gRG i2.toNatClampNeg s_4.2.toNatClampNeg) else none) else none)) : Option (Int32))).bind fun r_12 => ((((if s_4.2 = (r_3 - 1) then some r_12 else some (-r_12)) : Option (Int32))).bind fun r_14 => some (.inl (s_4.1 + r_14, s_4.2 + 1)))))) yFuel (0, 0)).bind fun b_4 => some b_4.1))
abbrev hX9_off : Cond := .code yX9_off cX9_off 7 (some .int)
theorem mX9_off : yM yX9_off hX9_off 2 := ⟨u_1503, u_64, by decide +kernel, by decide +kernel, by decide +kernel⟩
set_option maxHeartbeats 4000000 in
set_option maxRecDepth 100000 in
theorem kX9_off_i (l : Launch) (D : va_G) (cy : Nat → ClassId) (g : Nat) (gth : Int32) (gw : Nat) (gB : Nat) (gK : Nat) (gU : Nat) (gS : Nat) (gbe : Int32) (gwo : Int32) (gta : Int64) (glr : Int32) (glc : Int32) (gti : Int32) (ggo : Int32) (gR : Nat) (gch : Int32) (gD : Nat) (gRd : Nat → Nat) (gRn : Nat) (gRk : Nat) (gRG : Nat → Nat → Int32) (i1 : Int32) (i2 : Int32) {res : Int32} (hR : fX9_off_i gRn gRk gRG i1 i2 = some res) : YM l D cy yX9_off hX9_off 1 0 0 [.ref g, .int i1, .int i2] [[(g, .inr (11, [.int gth, .ref gw, .ref gB, .ref gK, .ref gU, .ref gS, .int gbe, .int gwo, .long gta, .null, .int glr, .int glc, .int gti, .int ggo, .ref gR, .int gch, .ref gD]))], [(gR, .inl (cy 3, gRn, .inr (.inr (.inr (.inr (yad gRd))))))], xg_rows gRd gRn (cy 1) gRk gRG] (fun v u => v = some (.int res) ∧ u = [[(g, .inr (11, [.int gth, .ref gw, .ref gB, .ref gK, .ref gU, .ref gS, .int gbe, .int gwo, .long gta, .null, .int glr, .int glc, .int gti, .int ggo, .ref gR, .int gch, .ref gD]))], [(gR, .inl (cy 3, gRn, .inr (.inr (.inr (.inr (yad gRd))))))], xg_rows gRd gRn (cy 1) gRk gRG]) := by
  unfold fX9_off_i at hR
  refine YM.ofI (cc := cX9_off) (maxL := 7) (ret := (some .int)) (by decide +kernel) rfl (Nat.le_of_ble_eq_true rfl) [(0, .ref g), (1, .int i1), (2, .int i2)] rfl rfl (fun p e s m args below meth c A H0 Q C hnm ret => ?_)
  refine xr_iload_n (n := 1) (j := 1) C dX9_off_0 rfl rfl ?_
  obtain ⟨r_3, hE_3, hR⟩ := yf_b hR
  have J_3 : X p l e (yR 1 0 0) s m args below meth c D A H0 7 Q [[(g, .inr (11, [.int gth, .ref gw, .ref gB, .ref gK, .ref gU, .ref gS, .int gbe, .int gwo, .long gta, .null, .int glr, .int glc, .int gti, .int ggo, .ref gR, .int gch, .ref gD]))], [(gR, .inl (cy 3, gRn, .inr (.inr (.inr (.inr (yad gRd))))))], xg_rows gRd gRn (cy 1) gRk gRG] 0 0 [(0, .ref g), (1, .int i1), (2, .int i2)] 19 [.int r_3] := by
    refine xr_istore_n (n := 20) C [(3, .int r_3), (0, .ref g), (1, .int i1), (2, .int i2)] dX9_off_19 (by decide) rfl rfl ?_
    refine xr_iconst (n := 21) (v := 0) C dX9_off_20 rfl rfl ?_
    refine xr_istore (n := 23) C [(4, .int 0), (3, .int r_3), (0, .ref g), (1, .int i1), (2, .int i2)] dX9_off_21 (by decide) rfl rfl ?_
    refine xr_iconst (n := 24) (v := 0) C dX9_off_23 rfl rfl ?_
    refine xr_istore (n := 26) C [(5, .int 0), (4, .int 0), (3, .int r_3), (0, .ref g), (1, .int i1), (2, .int i2)] dX9_off_24 (by decide) rfl rfl ?_
    refine xr_lv (lv' := [(0, .ref g), (1, .int i1), (2, .int i2), (3, .int r_3), (4, .int 0), (5, .int 0)]) [3, 4, 5, 2, 1, 0] rfl ?_
    obtain ⟨b_4, hb_4, hR⟩ := yf_b hR
    have K_4 : X p l e (yR 1 0 0) s m args below meth c D A H0 7 Q [[(g, .inr (11, [.int gth, .ref gw, .ref gB, .ref gK, .ref gU, .ref gS, .int gbe, .int gwo, .long gta, .null, .int glr, .int glc, .int gti, .int ggo, .ref gR, .int gch, .ref gD]))], [(gR, .inl (cy 3, gRn, .inr (.inr (.inr (.inr (yad gRd))))))], xg_rows gRd gRn (cy 1) gRk gRG] 0 0 [(4, .int b_4.1)] 86 [] := by
      refine xr_iload (n := 88) (j := 0) C dX9_off_86 rfl rfl ?_
      obtain rfl := Option.some.inj hR
      exact ret b_4.1 ⟨rfl, rfl⟩ (Nat.le_of_ble_eq_true rfl) (Nat.le_of_ble_eq_true rfl) dX9_off_88
    refine y_loop (P := fun (s_4 : Int32 × Int32) => X p l e (yR 1 0 0) s m args below meth c D A H0 7 Q [[(g, .inr (11, [.int gth, .ref gw, .ref gB, .ref gK, .ref gU, .ref gS, .int gbe, .int gwo, .long gta, .null, .int glr, .int glc, .int gti, .int ggo, .ref gR, .int gch, .ref gD]))], [(gR, .inl (cy 3, gRn, .inr (.inr (.inr (.inr (yad gRd))))))], xg_rows gRd gRn (cy 1) gRk gRG] 0 0 [(0, .ref g), (1, .int i1), (2, .int i2), (3, .int r_3), (4, .int s_4.1), (5, .int s_4.2)] 26 []) ?_ _ (0, 0) hb_4
    intro s_4 o_4 ho_4 hk_4 hx_4
    refine xr_iload (n := 28) (j := 5) C dX9_off_26 rfl rfl ?_
    refine xr_iload_n (n := 29) (j := 3) C dX9_off_28 rfl rfl ?_
    refine xr_icmp_ge (tgt := 86) (n := 32) C dX9_off_29 rfl rfl (fun c_5 => ?_) (fun c_5 => ?_)
    · replace ho_4 := yf_t c_5 ho_4
      refine xr_lv (lv' := [(4, .int s_4.1)]) [4] rfl ?_
      have e_6 := hx_4 _ (Option.some.inj ho_4).symm
      subst e_6
      exact K_4
    · replace ho_4 := yf_f c_5 ho_4
      refine xr_iload_n (n := 33) (j := 1) C dX9_off_32 rfl rfl ?_
      obtain ⟨r_12, hE_12, ho_4⟩ := yf_b ho_4
      have J_12 : X p l e (yR 1 0 0) s m args below meth c D A H0 7 Q [[(g, .inr (11, [.int gth, .ref gw, .ref gB, .ref gK, .ref gU, .ref gS, .int gbe, .int gwo, .long gta, .null, .int glr, .int glc, .int gti, .int ggo, .ref gR, .int gch, .ref gD]))], [(gR, .inl (cy 3, gRn, .inr (.inr (.inr (.inr (yad gRd))))))], xg_rows gRd gRn (cy 1) gRk gRG] 0 0 [(0, .ref g), (1, .int i1), (2, .int i2), (3, .int r_3), (4, .int s_4.1), (5, .int s_4.2)] 57 [.int r_12] := by
        refine xr_istore (n := 59) C [(6, .int r_12), (0, .ref g), (1, .int i1), (2, .int i2), (3, .int r_3), (4, .int s_4.1), (5, .int s_4.2)] dX9_off_57 (by decide) rfl rfl ?_
        refine xr_iload (n := 61) (j := 5) C dX9_off_59 rfl rfl ?_
        refine xr_iload (n := 63) (j := 6) C dX9_off_61 rfl rfl ?_
        refine xr_iload_n (n := 64) (j := 4) C dX9_off_63 rfl rfl ?_
        refine xr_iconst (n := 65) (v := 1) C dX9_off_64 rfl rfl ?_
        refine xr_isub (n := 66) C dX9_off_65 rfl ?_
        obtain ⟨r_14, hE_14, ho_4⟩ := yf_b ho_4
        have J_14 : X p l e (yR 1 0 0) s m args below meth c D A H0 7 Q [[(g, .inr (11, [.int gth, .ref gw, .ref gB, .ref gK, .ref gU, .ref gS, .int gbe, .int gwo, .long gta, .null, .int glr, .int glc, .int gti, .int ggo, .ref gR, .int gch, .ref gD]))], [(gR, .inl (cy 3, gRn, .inr (.inr (.inr (.inr (yad gRd))))))], xg_rows gRd gRn (cy 1) gRk gRG] 0 0 [(0, .ref g), (1, .int i1), (2, .int i2), (3, .int r_3), (5, .int s_4.2)] 77 [.int r_14, .int s_4.1] := by
          refine xr_iadd (n := 78) C dX9_off_77 rfl ?_
          refine xr_istore (n := 80) C [(4, .int (s_4.1 + r_14)), (0, .ref g), (1, .int i1), (2, .int i2), (3, .int r_3), (5, .int s_4.2)] dX9_off_78 (by decide) rfl rfl ?_
          refine xr_iinc (j := 5) (v := s_4.2 + 1) (n := 83) C [(5, .int (s_4.2 + 1)), (4, .int (s_4.1 + r_14)), (0, .ref g), (1, .int i1), (2, .int i2), (3, .int r_3)] dX9_off_80 rfl rfl (by decide) rfl rfl ?_
          refine xr_goto (tgt := 26) C dX9_off_83 rfl ?_
          refine xr_lv (lv' := [(0, .ref g), (1, .int i1), (2, .int i2), (3, .int r_3), (4, .int (s_4.1 + r_14)), (5, .int (s_4.2 + 1))]) [2, 3, 4, 5, 1, 0] rfl ?_
          exact hk_4 (s_4.1 + r_14, s_4.2 + 1) (Option.some.inj ho_4).symm
        refine xr_icmp_ne (tgt := 74) (n := 69) C dX9_off_66 rfl rfl (fun c_15 => ?_) (fun c_15 => ?_)
        · replace hE_14 := yf_f c_15 hE_14
          refine xr_iload (n := 76) (j := 0) C dX9_off_74 rfl rfl ?_
          refine xr_ineg (n := 77) C dX9_off_76 rfl ?_
          refine xr_lv (lv' := [(0, .ref g), (1, .int i1), (2, .int i2), (3, .int r_3), (5, .int s_4.2)]) [1, 2, 3, 4, 6] rfl ?_
          have e_16 := Option.some.inj hE_14
          subst e_16
          exact J_14
        · replace hE_14 := yf_t c_15 hE_14
          refine xr_iload (n := 71) (j := 0) C dX9_off_69 rfl rfl ?_
          refine xr_goto (tgt := 77) C dX9_off_71 rfl ?_
          refine xr_lv (lv' := [(0, .ref g), (1, .int i1), (2, .int i2), (3, .int r_3), (5, .int s_4.2)]) [1, 2, 3, 4, 6] rfl ?_
          have e_17 := Option.some.inj hE_14
          subst e_17
          exact J_14
      refine xr_if_eq (tgt := 48) (n := 36) C dX9_off_33 rfl rfl (fun c_18 => ?_) (fun c_18 => ?_)
      · replace hE_12 := yf_t c_18 hE_12
        refine xr_aload_n (n := 49) (j := 0) C dX9_off_48 rfl rfl ?_
        refine xr_get (n := 52) C 0 rfl rfl 14 (by decide) in_X9 u_1251 rfl (v := .ref gR) rfl dX9_off_49 rfl ?_
        refine xr_iload (n := 54) (j := 5) C dX9_off_52 rfl rfl ?_
        obtain ⟨g_19, hE_12⟩ := yf_g hE_12
        refine xr_aald (n := 55) C 1 0 rfl 3 rfl rfl g_19 rfl dX9_off_54 rfl ?_
        refine xr_iload_n (n := 56) (j := 2) C dX9_off_55 rfl rfl ?_
        obtain ⟨g_20, hE_12⟩ := yf_g hE_12
        refine xr_ialdg (n := 57) C 2 rfl s_4.2.toNatClampNeg (ylt g_19) g_20 dX9_off_56 rfl ?_
        have e_21 := Option.some.inj hE_12
        subst e_21
        exact J_12
      · replace hE_12 := yf_f c_18 hE_12
        refine xr_aload_n (n := 37) (j := 0) C dX9_off_36 rfl rfl ?_
        refine xr_get (n := 40) C 0 rfl rfl 14 (by decide) in_X9 u_1251 rfl (v := .ref gR) rfl dX9_off_37 rfl ?_
        refine xr_iload_n (n := 41) (j := 2) C dX9_off_40 rfl rfl ?_
        obtain ⟨g_22, hE_12⟩ := yf_g hE_12
        refine xr_aald (n := 42) C 1 0 rfl 3 rfl rfl g_22 rfl dX9_off_41 rfl ?_
        refine xr_iload (n := 44) (j := 5) C dX9_off_42 rfl rfl ?_
        obtain ⟨g_23, hE_12⟩ := yf_g hE_12
        refine xr_ialdg (n := 45) C 2 rfl i2.toNatClampNeg (ylt g_22) g_23 dX9_off_44 rfl ?_
        refine xr_goto (tgt := 57) C dX9_off_45 rfl ?_
        have e_24 := Option.some.inj hE_12
        subst e_24
        exact J_12
  refine xr_if_eq (tgt := 14) (n := 4) C dX9_off_1 rfl rfl (fun c_25 => ?_) (fun c_25 => ?_)
  · replace hE_3 := yf_t c_25 hE_3
    refine xr_aload_n (n := 15) (j := 0) C dX9_off_14 rfl rfl ?_
    refine xr_get (n := 18) C 0 rfl rfl 14 (by decide) in_X9 u_1251 rfl (v := .ref gR) rfl dX9_off_15 rfl ?_
    refine xr_alen (n := 19) C 1 0 rfl 3 rfl rfl dX9_off_18 rfl ?_
    have e_26 := Option.some.inj hE_3
    subst e_26
    exact J_3
  · replace hE_3 := yf_f c_25 hE_3
    refine xr_aload_n (n := 5) (j := 0) C dX9_off_4 rfl rfl ?_
    refine xr_get (n := 8) C 0 rfl rfl 14 (by decide) in_X9 u_1251 rfl (v := .ref gR) rfl dX9_off_5 rfl ?_
    refine xr_iconst (n := 9) (v := 0) C dX9_off_8 rfl rfl ?_
    obtain ⟨g_27, hE_3⟩ := yf_g hE_3
    refine xr_aald (n := 10) C 1 0 rfl 3 rfl rfl g_27 rfl dX9_off_9 rfl ?_
    refine xr_aleng (n := 11) C 2 1 rfl ((0 : Int32).toNatClampNeg) (ylt g_27) rfl dX9_off_10 rfl ?_
    refine xr_goto (tgt := 19) C dX9_off_11 rfl ?_
    have e_28 := Option.some.inj hE_3
    subst e_28
    exact J_3
def fX9_off_r (gRn : Nat) (gRk : Nat) (gRG : Nat → Nat → Int32) (i1 : Int32) (i2 : Int32) : Option (Int32) := ((((if i1 = 0 then some (nI gRn) else (if ¬ ((0 : Int32) < 0 ∨ gRn ≤ (0 : Int32).toNatClampNeg) then some (nI gRk) else none)) : Option (Int32))).bind fun r_3 => ((wl (S := Int32 × Int32) (B := Int32 × Int32) (fun s_4 => (if r_3 ≤ s_4.2 then some (.inr (s_4.1, s_4.2)) else ((((if i1 = 0 then (if ¬ (s_4.2 < 0 ∨ gRn ≤ s_4.2.toNatClampNeg) then (if ¬ (i2 < 0 ∨ gRk ≤ i2.toNatClampNeg) then some (gRG s_4.2.toNatClampNeg i2.toNatClampNeg) else none) else none) else (if ¬ (i2 < 0 ∨ gRn ≤ i2.toNatClampNeg) then (if ¬ (s_4.2 < 0 ∨ gRk ≤ s_4.2.toNatClampNeg) then some (gRG i2.toNatClampNeg s_4.2.toNatClampNeg) else none) else none)) : Option (Int32))).bind fun r_12 => ((((if s_4.2 = (r_3 - 1) then some r_12 else some (-r_12)) : Option (Int32))).bind fun r_14 => some (.inl (s_4.1 + r_14, s_4.2 + 1)))))) yFuel (0, 0)).bind fun b_4 => some b_4.1))
set_option maxHeartbeats 4000000 in
set_option maxRecDepth 100000 in
theorem kX9_off_r (l : Launch) (D : va_G) (cy : Nat → ClassId) (g : Nat) (gth : Int32) (gw : Nat) (gB : Nat) (gK : Nat) (gU : Nat) (gS : Nat) (gbe : Int32) (gwo : Int32) (gta : Int64) (gn : Nat) (glr : Int32) (glc : Int32) (gti : Int32) (ggo : Int32) (gR : Nat) (gch : Int32) (gD : Nat) (gRd : Nat → Nat) (gRn : Nat) (gRk : Nat) (gRG : Nat → Nat → Int32) (i1 : Int32) (i2 : Int32) {res : Int32} (hR : fX9_off_r gRn gRk gRG i1 i2 = some res) : YM l D cy yX9_off hX9_off 1 0 0 [.ref g, .int i1, .int i2] [[(g, .inr (11, [.int gth, .ref gw, .ref gB, .ref gK, .ref gU, .ref gS, .int gbe, .int gwo, .long gta, .ref gn, .int glr, .int glc, .int gti, .int ggo, .ref gR, .int gch, .ref gD]))], [(gR, .inl (cy 3, gRn, .inr (.inr (.inr (.inr (yad gRd))))))], xg_rows gRd gRn (cy 1) gRk gRG] (fun v u => v = some (.int res) ∧ u = [[(g, .inr (11, [.int gth, .ref gw, .ref gB, .ref gK, .ref gU, .ref gS, .int gbe, .int gwo, .long gta, .ref gn, .int glr, .int glc, .int gti, .int ggo, .ref gR, .int gch, .ref gD]))], [(gR, .inl (cy 3, gRn, .inr (.inr (.inr (.inr (yad gRd))))))], xg_rows gRd gRn (cy 1) gRk gRG]) := by
  unfold fX9_off_r at hR
  refine YM.ofI (cc := cX9_off) (maxL := 7) (ret := (some .int)) (by decide +kernel) rfl (Nat.le_of_ble_eq_true rfl) [(0, .ref g), (1, .int i1), (2, .int i2)] rfl rfl (fun p e s m args below meth c A H0 Q C hnm ret => ?_)
  refine xr_iload_n (n := 1) (j := 1) C dX9_off_0 rfl rfl ?_
  obtain ⟨r_3, hE_3, hR⟩ := yf_b hR
  have J_3 : X p l e (yR 1 0 0) s m args below meth c D A H0 7 Q [[(g, .inr (11, [.int gth, .ref gw, .ref gB, .ref gK, .ref gU, .ref gS, .int gbe, .int gwo, .long gta, .ref gn, .int glr, .int glc, .int gti, .int ggo, .ref gR, .int gch, .ref gD]))], [(gR, .inl (cy 3, gRn, .inr (.inr (.inr (.inr (yad gRd))))))], xg_rows gRd gRn (cy 1) gRk gRG] 0 0 [(0, .ref g), (1, .int i1), (2, .int i2)] 19 [.int r_3] := by
    refine xr_istore_n (n := 20) C [(3, .int r_3), (0, .ref g), (1, .int i1), (2, .int i2)] dX9_off_19 (by decide) rfl rfl ?_
    refine xr_iconst (n := 21) (v := 0) C dX9_off_20 rfl rfl ?_
    refine xr_istore (n := 23) C [(4, .int 0), (3, .int r_3), (0, .ref g), (1, .int i1), (2, .int i2)] dX9_off_21 (by decide) rfl rfl ?_
    refine xr_iconst (n := 24) (v := 0) C dX9_off_23 rfl rfl ?_
    refine xr_istore (n := 26) C [(5, .int 0), (4, .int 0), (3, .int r_3), (0, .ref g), (1, .int i1), (2, .int i2)] dX9_off_24 (by decide) rfl rfl ?_
    refine xr_lv (lv' := [(0, .ref g), (1, .int i1), (2, .int i2), (3, .int r_3), (4, .int 0), (5, .int 0)]) [3, 4, 5, 2, 1, 0] rfl ?_
    obtain ⟨b_4, hb_4, hR⟩ := yf_b hR
    have K_4 : X p l e (yR 1 0 0) s m args below meth c D A H0 7 Q [[(g, .inr (11, [.int gth, .ref gw, .ref gB, .ref gK, .ref gU, .ref gS, .int gbe, .int gwo, .long gta, .ref gn, .int glr, .int glc, .int gti, .int ggo, .ref gR, .int gch, .ref gD]))], [(gR, .inl (cy 3, gRn, .inr (.inr (.inr (.inr (yad gRd))))))], xg_rows gRd gRn (cy 1) gRk gRG] 0 0 [(4, .int b_4.1)] 86 [] := by
      refine xr_iload (n := 88) (j := 0) C dX9_off_86 rfl rfl ?_
      obtain rfl := Option.some.inj hR
      exact ret b_4.1 ⟨rfl, rfl⟩ (Nat.le_of_ble_eq_true rfl) (Nat.le_of_ble_eq_true rfl) dX9_off_88
    refine y_loop (P := fun (s_4 : Int32 × Int32) => X p l e (yR 1 0 0) s m args below meth c D A H0 7 Q [[(g, .inr (11, [.int gth, .ref gw, .ref gB, .ref gK, .ref gU, .ref gS, .int gbe, .int gwo, .long gta, .ref gn, .int glr, .int glc, .int gti, .int ggo, .ref gR, .int gch, .ref gD]))], [(gR, .inl (cy 3, gRn, .inr (.inr (.inr (.inr (yad gRd))))))], xg_rows gRd gRn (cy 1) gRk gRG] 0 0 [(0, .ref g), (1, .int i1), (2, .int i2), (3, .int r_3), (4, .int s_4.1), (5, .int s_4.2)] 26 []) ?_ _ (0, 0) hb_4
    intro s_4 o_4 ho_4 hk_4 hx_4
    refine xr_iload (n := 28) (j := 5) C dX9_off_26 rfl rfl ?_
    refine xr_iload_n (n := 29) (j := 3) C dX9_off_28 rfl rfl ?_
    refine xr_icmp_ge (tgt := 86) (n := 32) C dX9_off_29 rfl rfl (fun c_5 => ?_) (fun c_5 => ?_)
    · replace ho_4 := yf_t c_5 ho_4
      refine xr_lv (lv' := [(4, .int s_4.1)]) [4] rfl ?_
      have e_6 := hx_4 _ (Option.some.inj ho_4).symm
      subst e_6
      exact K_4
    · replace ho_4 := yf_f c_5 ho_4
      refine xr_iload_n (n := 33) (j := 1) C dX9_off_32 rfl rfl ?_
      obtain ⟨r_12, hE_12, ho_4⟩ := yf_b ho_4
      have J_12 : X p l e (yR 1 0 0) s m args below meth c D A H0 7 Q [[(g, .inr (11, [.int gth, .ref gw, .ref gB, .ref gK, .ref gU, .ref gS, .int gbe, .int gwo, .long gta, .ref gn, .int glr, .int glc, .int gti, .int ggo, .ref gR, .int gch, .ref gD]))], [(gR, .inl (cy 3, gRn, .inr (.inr (.inr (.inr (yad gRd))))))], xg_rows gRd gRn (cy 1) gRk gRG] 0 0 [(0, .ref g), (1, .int i1), (2, .int i2), (3, .int r_3), (4, .int s_4.1), (5, .int s_4.2)] 57 [.int r_12] := by
        refine xr_istore (n := 59) C [(6, .int r_12), (0, .ref g), (1, .int i1), (2, .int i2), (3, .int r_3), (4, .int s_4.1), (5, .int s_4.2)] dX9_off_57 (by decide) rfl rfl ?_
        refine xr_iload (n := 61) (j := 5) C dX9_off_59 rfl rfl ?_
        refine xr_iload (n := 63) (j := 6) C dX9_off_61 rfl rfl ?_
        refine xr_iload_n (n := 64) (j := 4) C dX9_off_63 rfl rfl ?_
        refine xr_iconst (n := 65) (v := 1) C dX9_off_64 rfl rfl ?_
        refine xr_isub (n := 66) C dX9_off_65 rfl ?_
        obtain ⟨r_14, hE_14, ho_4⟩ := yf_b ho_4
        have J_14 : X p l e (yR 1 0 0) s m args below meth c D A H0 7 Q [[(g, .inr (11, [.int gth, .ref gw, .ref gB, .ref gK, .ref gU, .ref gS, .int gbe, .int gwo, .long gta, .ref gn, .int glr, .int glc, .int gti, .int ggo, .ref gR, .int gch, .ref gD]))], [(gR, .inl (cy 3, gRn, .inr (.inr (.inr (.inr (yad gRd))))))], xg_rows gRd gRn (cy 1) gRk gRG] 0 0 [(0, .ref g), (1, .int i1), (2, .int i2), (3, .int r_3), (5, .int s_4.2)] 77 [.int r_14, .int s_4.1] := by
          refine xr_iadd (n := 78) C dX9_off_77 rfl ?_
          refine xr_istore (n := 80) C [(4, .int (s_4.1 + r_14)), (0, .ref g), (1, .int i1), (2, .int i2), (3, .int r_3), (5, .int s_4.2)] dX9_off_78 (by decide) rfl rfl ?_
          refine xr_iinc (j := 5) (v := s_4.2 + 1) (n := 83) C [(5, .int (s_4.2 + 1)), (4, .int (s_4.1 + r_14)), (0, .ref g), (1, .int i1), (2, .int i2), (3, .int r_3)] dX9_off_80 rfl rfl (by decide) rfl rfl ?_
          refine xr_goto (tgt := 26) C dX9_off_83 rfl ?_
          refine xr_lv (lv' := [(0, .ref g), (1, .int i1), (2, .int i2), (3, .int r_3), (4, .int (s_4.1 + r_14)), (5, .int (s_4.2 + 1))]) [2, 3, 4, 5, 1, 0] rfl ?_
          exact hk_4 (s_4.1 + r_14, s_4.2 + 1) (Option.some.inj ho_4).symm
        refine xr_icmp_ne (tgt := 74) (n := 69) C dX9_off_66 rfl rfl (fun c_15 => ?_) (fun c_15 => ?_)
        · replace hE_14 := yf_f c_15 hE_14
          refine xr_iload (n := 76) (j := 0) C dX9_off_74 rfl rfl ?_
          refine xr_ineg (n := 77) C dX9_off_76 rfl ?_
          refine xr_lv (lv' := [(0, .ref g), (1, .int i1), (2, .int i2), (3, .int r_3), (5, .int s_4.2)]) [1, 2, 3, 4, 6] rfl ?_
          have e_16 := Option.some.inj hE_14
          subst e_16
          exact J_14
        · replace hE_14 := yf_t c_15 hE_14
          refine xr_iload (n := 71) (j := 0) C dX9_off_69 rfl rfl ?_
          refine xr_goto (tgt := 77) C dX9_off_71 rfl ?_
          refine xr_lv (lv' := [(0, .ref g), (1, .int i1), (2, .int i2), (3, .int r_3), (5, .int s_4.2)]) [1, 2, 3, 4, 6] rfl ?_
          have e_17 := Option.some.inj hE_14
          subst e_17
          exact J_14
      refine xr_if_eq (tgt := 48) (n := 36) C dX9_off_33 rfl rfl (fun c_18 => ?_) (fun c_18 => ?_)
      · replace hE_12 := yf_t c_18 hE_12
        refine xr_aload_n (n := 49) (j := 0) C dX9_off_48 rfl rfl ?_
        refine xr_get (n := 52) C 0 rfl rfl 14 (by decide) in_X9 u_1251 rfl (v := .ref gR) rfl dX9_off_49 rfl ?_
        refine xr_iload (n := 54) (j := 5) C dX9_off_52 rfl rfl ?_
        obtain ⟨g_19, hE_12⟩ := yf_g hE_12
        refine xr_aald (n := 55) C 1 0 rfl 3 rfl rfl g_19 rfl dX9_off_54 rfl ?_
        refine xr_iload_n (n := 56) (j := 2) C dX9_off_55 rfl rfl ?_
        obtain ⟨g_20, hE_12⟩ := yf_g hE_12
        refine xr_ialdg (n := 57) C 2 rfl s_4.2.toNatClampNeg (ylt g_19) g_20 dX9_off_56 rfl ?_
        have e_21 := Option.some.inj hE_12
        subst e_21
        exact J_12
      · replace hE_12 := yf_f c_18 hE_12
        refine xr_aload_n (n := 37) (j := 0) C dX9_off_36 rfl rfl ?_
        refine xr_get (n := 40) C 0 rfl rfl 14 (by decide) in_X9 u_1251 rfl (v := .ref gR) rfl dX9_off_37 rfl ?_
        refine xr_iload_n (n := 41) (j := 2) C dX9_off_40 rfl rfl ?_
        obtain ⟨g_22, hE_12⟩ := yf_g hE_12
        refine xr_aald (n := 42) C 1 0 rfl 3 rfl rfl g_22 rfl dX9_off_41 rfl ?_
        refine xr_iload (n := 44) (j := 5) C dX9_off_42 rfl rfl ?_
        obtain ⟨g_23, hE_12⟩ := yf_g hE_12
        refine xr_ialdg (n := 45) C 2 rfl i2.toNatClampNeg (ylt g_22) g_23 dX9_off_44 rfl ?_
        refine xr_goto (tgt := 57) C dX9_off_45 rfl ?_
        have e_24 := Option.some.inj hE_12
        subst e_24
        exact J_12
  refine xr_if_eq (tgt := 14) (n := 4) C dX9_off_1 rfl rfl (fun c_25 => ?_) (fun c_25 => ?_)
  · replace hE_3 := yf_t c_25 hE_3
    refine xr_aload_n (n := 15) (j := 0) C dX9_off_14 rfl rfl ?_
    refine xr_get (n := 18) C 0 rfl rfl 14 (by decide) in_X9 u_1251 rfl (v := .ref gR) rfl dX9_off_15 rfl ?_
    refine xr_alen (n := 19) C 1 0 rfl 3 rfl rfl dX9_off_18 rfl ?_
    have e_26 := Option.some.inj hE_3
    subst e_26
    exact J_3
  · replace hE_3 := yf_f c_25 hE_3
    refine xr_aload_n (n := 5) (j := 0) C dX9_off_4 rfl rfl ?_
    refine xr_get (n := 8) C 0 rfl rfl 14 (by decide) in_X9 u_1251 rfl (v := .ref gR) rfl dX9_off_5 rfl ?_
    refine xr_iconst (n := 9) (v := 0) C dX9_off_8 rfl rfl ?_
    obtain ⟨g_27, hE_3⟩ := yf_g hE_3
    refine xr_aald (n := 10) C 1 0 rfl 3 rfl rfl g_27 rfl dX9_off_9 rfl ?_
    refine xr_aleng (n := 11) C 2 1 rfl ((0 : Int32).toNatClampNeg) (ylt g_27) rfl dX9_off_10 rfl ?_
    refine xr_goto (tgt := 19) C dX9_off_11 rfl ?_
    have e_28 := Option.some.inj hE_3
    subst e_28
    exact J_3
