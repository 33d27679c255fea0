theorem u_1337 : Cond.code yX9_isNoCell cX9_isNoCell 2 (some .boolean) ∈ yU := yu 1337 (by decide +kernel) (by decide +kernel)
theorem u_1335 : Cond.methodLink RX9 130 yX9_isNoCell ∈ yU := yu 1335 (by decide +kernel) (by decide +kernel)
theorem u_1336 : Cond.static yX9_isNoCell ∈ yU := yu 1336 (by decide +kernel) (by decide +kernel)
theorem u_1239 : Cond.fieldLink RX9 24 "PulsemeshModel" "areBroken" "[[Z" ∈ yU := yu 1239 (by decide +kernel) (by decide +kernel)
theorem u_1338 : Cond.methodLink RX9 133 yX9_count ∈ yU := yu 1338 (by decide +kernel) (by decide +kernel)
theorem u_1340 : Cond.instanceMethod yX9_count ∈ yU := yu 1340 (by decide +kernel) (by decide +kernel)
theorem u_31 : Cond.selects RX9 yX9_count yX9_count ∈ yU := yu 31 (by decide +kernel) (by decide +kernel)
theorem u_1334 : Cond.code yX9_broken cX9_broken 4 (some .int) ∈ yU := yu 1334 (by decide +kernel) (by decide +kernel)
theorem u_1247 : Cond.fieldLink RX9 146 "PulsemeshModel" "layRows" "I" ∈ yU := yu 1247 (by decide +kernel) (by decide +kernel)
theorem u_1433 : Cond.code yX9_h cX9_h 1 (some .int) ∈ yU := yu 1433 (by decide +kernel) (by decide +kernel)
theorem u_1248 : Cond.fieldLink RX9 149 "PulsemeshModel" "layColumns" "I" ∈ yU := yu 1248 (by decide +kernel) (by decide +kernel)
theorem u_1429 : Cond.code yX9_w cX9_w 1 (some .int) ∈ yU := yu 1429 (by decide +kernel) (by decide +kernel)
def fX9_count_r (hn : Nat) (hk : Nat) (hG : Nat → Nat → Int32) : Option (Int32) := ((wl (S := Int32 × Int32) (B := Int32 × Int32) (fun s_1 => (if (nI hn) ≤ s_1.2 then some (.inr (s_1.1, s_1.2)) else (if ¬ (s_1.2 < 0 ∨ hn ≤ s_1.2.toNatClampNeg) then ((wl (S := Int32 × Int32) (B := Int32 × Int32) (fun s_5 => (if (nI hk) ≤ s_5.2 then some (.inr (s_5.1, s_5.2)) else (if ¬ (s_5.2 < 0 ∨ hk ≤ s_5.2.toNatClampNeg) then (ylet (hG s_1.2.toNatClampNeg s_5.2.toNatClampNeg : Int32) fun y_9 => ((fX9_one y_9).bind fun x_10 => some (.inl (s_5.1 + x_10, s_5.2 + 1)))) else none))) yFuel (s_1.1, 0)).bind fun b_5 => some (.inl (b_5.1, s_1.2 + 1))) else none))) yFuel (0, 0)).bind fun b_1 => some b_1.1)
set_option maxHeartbeats 4000000 in
set_option maxRecDepth 100000 in
theorem kX9_count_r (l : Launch) (D : va_G) (cy : Nat → ClassId) (g : Nat) (gth : Int32) (gw : Nat) (gB : Nat) (gK : Nat) (gU : Nat) (gS : Nat) (gbe : Int32) (gwo : Int32) (gta : Int64) (gn : Nat) (glr : Int32) (glc : Int32) (gti : Int32) (ggo : Int32) (gR : Nat) (gch : Int32) (gD : Nat) (h : Nat) (hd : Nat → Nat) (hn : Nat) (hk : Nat) (hG : Nat → Nat → Int32) {res : Int32} (hR : fX9_count_r hn hk hG = some res) : YM l D cy yX9_count hX9_count 2 0 0 [.ref g, .ref h] [[(g, .inr (11, [.int gth, .ref gw, .ref gB, .ref gK, .ref gU, .ref gS, .int gbe, .int gwo, .long gta, .ref gn, .int glr, .int glc, .int gti, .int ggo, .ref gR, .int gch, .ref gD]))], [(h, .inl (cy 4, hn, .inr (.inr (.inr (.inr (yad hd))))))], xg_rows hd hn (cy 2) hk hG] (fun v u => v = some (.int res) ∧ u = [[(g, .inr (11, [.int gth, .ref gw, .ref gB, .ref gK, .ref gU, .ref gS, .int gbe, .int gwo, .long gta, .ref gn, .int glr, .int glc, .int gti, .int ggo, .ref gR, .int gch, .ref gD]))], [(h, .inl (cy 4, hn, .inr (.inr (.inr (.inr (yad hd))))))], xg_rows hd hn (cy 2) hk hG]) := by
  unfold fX9_count_r at hR
  refine YM.ofI (cc := cX9_count) (maxL := 11) (ret := (some .int)) (by decide +kernel) rfl (Nat.le_of_ble_eq_true rfl) [(0, .ref g), (1, .ref h)] rfl rfl (fun p e s m args below meth c A H0 Q C hnm ret => ?_)
  refine xr_iconst (n := 1) (v := 0) C dX9_count_0 rfl rfl ?_
  refine xr_istore_n (n := 2) C [(2, .int 0), (0, .ref g), (1, .ref h)] dX9_count_1 (by decide) rfl rfl ?_
  refine xr_aload_n (n := 3) (j := 2) C dX9_count_2 rfl rfl ?_
  refine xr_astore_n (n := 4) C [(3, .ref h), (2, .int 0), (0, .ref g), (1, .ref h)] dX9_count_3 (by decide) rfl rfl ?_
  refine xr_aload_n (n := 5) (j := 0) C dX9_count_4 rfl rfl ?_
  refine xr_alen (n := 6) C 1 0 rfl 4 rfl rfl dX9_count_5 rfl ?_
  refine xr_istore (n := 8) C [(4, .int (nI hn)), (3, .ref h), (2, .int 0), (0, .ref g), (1, .ref h)] dX9_count_6 (by decide) rfl rfl ?_
  refine xr_iconst (n := 9) (v := 0) C dX9_count_8 rfl rfl ?_
  refine xr_istore (n := 11) C [(5, .int 0), (4, .int (nI hn)), (3, .ref h), (2, .int 0), (0, .ref g), (1, .ref h)] dX9_count_9 (by decide) rfl rfl ?_
  refine xr_lv (lv' := [(2, .int 0), (3, .ref h), (4, .int (nI hn)), (5, .int 0)]) [3, 2, 1, 0] rfl ?_
  obtain ⟨b_1, hb_1, hR⟩ := yf_b hR
  have K_1 : X p l e (yR 2 0 0) s m args below meth c D A H0 11 Q [[(g, .inr (11, [.int gth, .ref gw, .ref gB, .ref gK, .ref gU, .ref gS, .int gbe, .int gwo, .long gta, .ref gn, .int glr, .int glc, .int gti, .int ggo, .ref gR, .int gch, .ref gD]))], [(h, .inl (cy 4, hn, .inr (.inr (.inr (.inr (yad hd))))))], xg_rows hd hn (cy 2) hk hG] 0 0 [(2, .int b_1.1)] 70 [] := by
    refine xr_iload_n (n := 71) (j := 0) C dX9_count_70 rfl rfl ?_
    obtain rfl := Option.some.inj hR
    exact ret b_1.1 ⟨rfl, rfl⟩ (Nat.le_of_ble_eq_true rfl) (Nat.le_of_ble_eq_true rfl) dX9_count_71
  refine y_loop (P := fun s_1 => X p l e (yR 2 0 0) s m args below meth c D A H0 11 Q [[(g, .inr (11, [.int gth, .ref gw, .ref gB, .ref gK, .ref gU, .ref gS, .int gbe, .int gwo, .long gta, .ref gn, .int glr, .int glc, .int gti, .int ggo, .ref gR, .int gch, .ref gD]))], [(h, .inl (cy 4, hn, .inr (.inr (.inr (.inr (yad hd))))))], xg_rows hd hn (cy 2) hk hG] 0 0 [(2, .int s_1.1), (3, .ref h), (4, .int (nI hn)), (5, .int s_1.2)] 11 []) ?_ _ _ hb_1
  intro s_1 o_1 ho_1 hk_1 hx_1
  refine xr_iload (n := 13) (j := 3) C dX9_count_11 rfl rfl ?_
  refine xr_iload (n := 15) (j := 2) C dX9_count_13 rfl rfl ?_
  refine xr_icmp_ge (tgt := 70) (n := 18) C dX9_count_15 rfl rfl (fun c_2 => ?_) (fun c_2 => ?_)
  · replace ho_1 := yf_t c_2 ho_1
    refine xr_lv (lv' := [(2, .int s_1.1)]) [0] rfl ?_
    have e_3 := hx_1 _ (Option.some.inj ho_1).symm
    subst e_3
    exact K_1
  · replace ho_1 := yf_f c_2 ho_1
    refine xr_aload_n (n := 19) (j := 1) C dX9_count_18 rfl rfl ?_
    refine xr_iload (n := 21) (j := 3) C dX9_count_19 rfl rfl ?_
    obtain ⟨g_4, ho_1⟩ := yf_g ho_1
    refine xr_aald (n := 22) C 1 0 rfl 4 rfl rfl g_4 rfl dX9_count_21 rfl ?_
    refine xr_astore (n := 24) C [(6, .ref (hd s_1.2.toNatClampNeg)), (2, .int s_1.1), (3, .ref h), (4, .int (nI hn)), (5, .int s_1.2)] dX9_count_22 (by decide) rfl rfl ?_
    refine xr_aload (n := 26) (j := 0) C dX9_count_24 rfl rfl ?_
    refine xr_astore (n := 28) C [(7, .ref (hd s_1.2.toNatClampNeg)), (6, .ref (hd s_1.2.toNatClampNeg)), (2, .int s_1.1), (3, .ref h), (4, .int (nI hn)), (5, .int s_1.2)] dX9_count_26 (by decide) rfl rfl ?_
    refine xr_aload (n := 30) (j := 0) C dX9_count_28 rfl rfl ?_
    refine xr_aleng (n := 31) C 2 2 rfl s_1.2.toNatClampNeg (ylt g_4) rfl dX9_count_30 rfl ?_
    refine xr_istore (n := 33) C [(8, .int (nI hk)), (7, .ref (hd s_1.2.toNatClampNeg)), (6, .ref (hd s_1.2.toNatClampNeg)), (2, .int s_1.1), (3, .ref h), (4, .int (nI hn)), (5, .int s_1.2)] dX9_count_31 (by decide) rfl rfl ?_
    refine xr_iconst (n := 34) (v := 0) C dX9_count_33 rfl rfl ?_
    refine xr_istore (n := 36) C [(9, .int 0), (8, .int (nI hk)), (7, .ref (hd s_1.2.toNatClampNeg)), (6, .ref (hd s_1.2.toNatClampNeg)), (2, .int s_1.1), (3, .ref h), (4, .int (nI hn)), (5, .int s_1.2)] dX9_count_34 (by decide) rfl rfl ?_
    refine xr_lv (lv' := [(2, .int s_1.1), (3, .ref h), (4, .int (nI hn)), (5, .int s_1.2), (7, .ref (hd s_1.2.toNatClampNeg)), (8, .int (nI hk)), (9, .int 0)]) [4, 5, 6, 7, 2, 1, 0] rfl ?_
    obtain ⟨b_5, hb_5, ho_1⟩ := yf_b ho_1
    have K_5 : X p l e (yR 2 0 0) s m args below meth c D A H0 11 Q [[(g, .inr (11, [.int gth, .ref gw, .ref gB, .ref gK, .ref gU, .ref gS, .int gbe, .int gwo, .long gta, .ref gn, .int glr, .int glc, .int gti, .int ggo, .ref gR, .int gch, .ref gD]))], [(h, .inl (cy 4, hn, .inr (.inr (.inr (.inr (yad hd))))))], xg_rows hd hn (cy 2) hk hG] 0 0 [(2, .int b_5.1), (3, .ref h), (4, .int (nI hn)), (5, .int s_1.2)] 64 [] := by
      refine xr_iinc (j := 3) (v := s_1.2 + 1) (n := 67) C [(5, .int (s_1.2 + 1)), (2, .int b_5.1), (3, .ref h), (4, .int (nI hn))] dX9_count_64 rfl rfl (by decide) rfl rfl ?_
      refine xr_goto (tgt := 11) C dX9_count_67 rfl ?_
      refine xr_lv (lv' := [(2, .int b_5.1), (3, .ref h), (4, .int (nI hn)), (5, .int (s_1.2 + 1))]) [1, 2, 3, 0] rfl ?_
      exact hk_1 _ (Option.some.inj ho_1).symm
    refine y_loop (P := fun s_5 => X p l e (yR 2 0 0) s m args below meth c D A H0 11 Q [[(g, .inr (11, [.int gth, .ref gw, .ref gB, .ref gK, .ref gU, .ref gS, .int gbe, .int gwo, .long gta, .ref gn, .int glr, .int glc, .int gti, .int ggo, .ref gR, .int gch, .ref gD]))], [(h, .inl (cy 4, hn, .inr (.inr (.inr (.inr (yad hd))))))], xg_rows hd hn (cy 2) hk hG] 0 0 [(2, .int s_5.1), (3, .ref h), (4, .int (nI hn)), (5, .int s_1.2), (7, .ref (hd s_1.2.toNatClampNeg)), (8, .int (nI hk)), (9, .int s_5.2)] 36 []) ?_ _ _ hb_5
    intro s_5 o_5 ho_5 hk_5 hx_5
    refine xr_iload (n := 38) (j := 6) C dX9_count_36 rfl rfl ?_
    refine xr_iload (n := 40) (j := 5) C dX9_count_38 rfl rfl ?_
    refine xr_icmp_ge (tgt := 64) (n := 43) C dX9_count_40 rfl rfl (fun c_6 => ?_) (fun c_6 => ?_)
    · replace ho_5 := yf_t c_6 ho_5
      refine xr_lv (lv' := [(2, .int s_5.1), (3, .ref h), (4, .int (nI hn)), (5, .int s_1.2)]) [0, 1, 2, 3] rfl ?_
      have e_7 := hx_5 _ (Option.some.inj ho_5).symm
      subst e_7
      exact K_5
    · replace ho_5 := yf_f c_6 ho_5
      refine xr_aload (n := 45) (j := 4) C dX9_count_43 rfl rfl ?_
      refine xr_iload (n := 47) (j := 6) C dX9_count_45 rfl rfl ?_
      obtain ⟨g_8, ho_5⟩ := yf_g ho_5
      refine xr_zaldg (n := 48) C 2 rfl s_1.2.toNatClampNeg (ylt g_4) g_8 dX9_count_47 rfl ?_
      obtain ⟨y_9, ey_9, ho_5⟩ := yf_l ho_5
      refine xr_topI ey_9 ?_
      refine xr_istore (n := 50) C [(10, .int y_9), (2, .int s_5.1), (3, .ref h), (4, .int (nI hn)), (5, .int s_1.2), (7, .ref (hd s_1.2.toNatClampNeg)), (8, .int (nI hk)), (9, .int s_5.2)] dX9_count_48 (by decide) rfl rfl ?_
      refine xr_iload_n (n := 51) (j := 1) C dX9_count_50 rfl rfl ?_
      refine xr_iload (n := 53) (j := 0) C dX9_count_51 rfl rfl ?_
      obtain ⟨x_10, hx_10, ho_5⟩ := yf_b ho_5
      refine xr_callSp (n := 56) (As := [.int y_9]) (rest := [.int s_5.1]) C (kX9_one l D cy (i1 := y_9) hx_10) mX9_one u_1312 u_1313 3 [] [0, 1, 2] rfl (by decide +kernel) rfl rfl rfl rfl (Nat.le_of_ble_eq_true rfl) (Nat.le_of_ble_eq_true rfl) (Nat.le_of_ble_eq_true rfl) (Nat.le_of_ble_eq_true rfl) (Nat.le_of_ble_eq_true rfl) dX9_count_53 rfl (fun _ _ hp => hp.2) (fun v_11 hp_13 => ?_)
      obtain ⟨rfl, -⟩ := hp_13
      refine xr_st (st' := [.int x_10, .int s_5.1]) rfl ?_
      refine xr_iadd (n := 57) C dX9_count_56 rfl ?_
      refine xr_istore_n (n := 58) C [(2, .int (s_5.1 + x_10)), (10, .int y_9), (3, .ref h), (4, .int (nI hn)), (5, .int s_1.2), (7, .ref (hd s_1.2.toNatClampNeg)), (8, .int (nI hk)), (9, .int s_5.2)] dX9_count_57 (by decide) rfl rfl ?_
      refine xr_iinc (j := 7) (v := s_5.2 + 1) (n := 61) C [(9, .int (s_5.2 + 1)), (2, .int (s_5.1 + x_10)), (10, .int y_9), (3, .ref h), (4, .int (nI hn)), (5, .int s_1.2), (7, .ref (hd s_1.2.toNatClampNeg)), (8, .int (nI hk))] dX9_count_58 rfl rfl (by decide) rfl rfl ?_
      refine xr_goto (tgt := 36) C dX9_count_61 rfl ?_
      refine xr_lv (lv' := [(2, .int (s_5.1 + x_10)), (3, .ref h), (4, .int (nI hn)), (5, .int s_1.2), (7, .ref (hd s_1.2.toNatClampNeg)), (8, .int (nI hk)), (9, .int (s_5.2 + 1))]) [1, 3, 4, 5, 6, 7, 0] rfl ?_
      exact hk_5 _ (Option.some.inj ho_5).symm
theorem dX9_isNoCell_0 : decode cX9_isNoCell 0 = .ok (.iload_n 0, 1) := by decide +kernel
theorem dX9_isNoCell_1 : decode cX9_isNoCell 1 = .ok (.iconst 0, 1) := by decide +kernel
theorem dX9_isNoCell_2 : decode cX9_isNoCell 2 = .ok (.iconst 4, 1) := by decide +kernel
theorem dX9_isNoCell_3 : decode cX9_isNoCell 3 = .ok (.invokestatic 75, 3) := by decide +kernel
theorem dX9_isNoCell_6 : decode cX9_isNoCell 6 = .ok (.ifCond .eq 12, 3) := by decide +kernel
theorem dX9_isNoCell_9 : decode cX9_isNoCell 9 = .ok (.iload_n 1, 1) := by decide +kernel
theorem dX9_isNoCell_10 : decode cX9_isNoCell 10 = .ok (.iconst 0, 1) := by decide +kernel
theorem dX9_isNoCell_11 : decode cX9_isNoCell 11 = .ok (.iconst 4, 1) := by decide +kernel
theorem dX9_isNoCell_12 : decode cX9_isNoCell 12 = .ok (.invokestatic 75, 3) := by decide +kernel
theorem dX9_isNoCell_15 : decode cX9_isNoCell 15 = .ok (.ifCond .ne 7, 3) := by decide +kernel
theorem dX9_isNoCell_18 : decode cX9_isNoCell 18 = .ok (.iconst 1, 1) := by decide +kernel
theorem dX9_isNoCell_19 : decode cX9_isNoCell 19 = .ok (.goto 4, 3) := by decide +kernel
theorem dX9_isNoCell_22 : decode cX9_isNoCell 22 = .ok (.iconst 0, 1) := by decide +kernel
theorem dX9_isNoCell_23 : decode cX9_isNoCell 23 = .ok (.ireturn, 1) := by decide +kernel
def fX9_isNoCell (i1 : Int32) (i2 : Int32) : Option (Int32) := ((fX9_isIn i1 0 4).bind fun x_1 => (if x_1 = 0 then some 1 else ((fX9_isIn i2 0 4).bind fun x_6 => (if x_6 = 0 then some 1 else some 0))))
abbrev hX9_isNoCell : Cond := .code yX9_isNoCell cX9_isNoCell 2 (some .boolean)
theorem mX9_isNoCell : yM yX9_isNoCell hX9_isNoCell 2 := ⟨u_1337, u_64, by decide +kernel, by decide +kernel, by decide +kernel⟩
set_option maxHeartbeats 4000000 in
set_option maxRecDepth 100000 in
theorem kX9_isNoCell (l : Launch) (D : va_G) (cy : Nat → ClassId) (i1 : Int32) (i2 : Int32) {res : Int32} (hR : fX9_isNoCell i1 i2 = some res) : YM l D cy yX9_isNoCell hX9_isNoCell 2 0 0 [.int i1, .int i2] [] (fun v u => v = some (.int res) ∧ u = []) := by
  unfold fX9_isNoCell at hR
  refine YM.ofZ (cc := cX9_isNoCell) (maxL := 2) (ret := (some .boolean)) (by decide +kernel) rfl (Nat.le_of_ble_eq_true rfl) [(0, .int i1), (1, .int i2)] rfl .boolean rfl (fun p e s m args below meth c A H0 Q C hnm ret => ?_)
  refine xr_iload_n (n := 1) (j := 0) C dX9_isNoCell_0 rfl rfl ?_
  refine xr_iconst (n := 2) (v := 0) C dX9_isNoCell_1 rfl rfl ?_
  refine xr_iconst (n := 3) (v := 4) C dX9_isNoCell_2 rfl rfl ?_
  obtain ⟨x_1, hx_1, hR⟩ := yf_b hR
  refine xr_callSp (n := 6) (As := [.int i1, .int 0, .int 4]) (rest := []) C (kX9_isIn l D cy (i1 := i1) (i2 := 0) (i3 := 4) hx_1) mX9_isIn u_1298 u_1299 0 [] [] rfl (by decide +kernel) rfl rfl rfl rfl (Nat.le_of_ble_eq_true rfl) (Nat.le_of_ble_eq_true rfl) (Nat.le_of_ble_eq_true rfl) (Nat.le_of_ble_eq_true rfl) (Nat.le_of_ble_eq_true rfl) dX9_isNoCell_3 rfl (fun _ _ hp => hp.2) (fun v_2 hp_4 => ?_)
  obtain ⟨rfl, -⟩ := hp_4
  refine xr_st (st' := [.int x_1]) rfl ?_
  refine xr_if_eq (tgt := 18) (n := 9) C dX9_isNoCell_6 rfl rfl (fun c_5 => ?_) (fun c_5 => ?_)
  · replace hR := yf_t c_5 hR
    refine xr_iconst (n := 19) (v := 1) C dX9_isNoCell_18 rfl rfl ?_
    refine xr_goto (tgt := 23) C dX9_isNoCell_19 rfl ?_
    obtain rfl := Option.some.inj hR
    exact ret 1 (by decide) ⟨rfl, rfl⟩ (Nat.le_of_ble_eq_true rfl) (Nat.le_of_ble_eq_true rfl) dX9_isNoCell_23
  · replace hR := yf_f c_5 hR
    refine xr_iload_n (n := 10) (j := 1) C dX9_isNoCell_9 rfl rfl ?_
    refine xr_iconst (n := 11) (v := 0) C dX9_isNoCell_10 rfl rfl ?_
    refine xr_iconst (n := 12) (v := 4) C dX9_isNoCell_11 rfl rfl ?_
    obtain ⟨x_6, hx_6, hR⟩ := yf_b hR
    refine xr_callSp (n := 15) (As := [.int i2, .int 0, .int 4]) (rest := []) C (kX9_isIn l D cy (i1 := i2) (i2 := 0) (i3 := 4) hx_6) mX9_isIn u_1298 u_1299 0 [] [] rfl (by decide +kernel) rfl rfl rfl rfl (Nat.le_of_ble_eq_true rfl) (Nat.le_of_ble_eq_true rfl) (Nat.le_of_ble_eq_true rfl) (Nat.le_of_ble_eq_true rfl) (Nat.le_of_ble_eq_true rfl) dX9_isNoCell_12 rfl (fun _ _ hp => hp.2) (fun v_7 hp_9 => ?_)
    obtain ⟨rfl, -⟩ := hp_9
    refine xr_st (st' := [.int x_6]) rfl ?_
    refine xr_if_ne (tgt := 22) (n := 18) C dX9_isNoCell_15 rfl rfl (fun c_10 => ?_) (fun c_10 => ?_)
    · replace hR := yf_f c_10 hR
      refine xr_iconst (n := 23) (v := 0) C dX9_isNoCell_22 rfl rfl ?_
      obtain rfl := Option.some.inj hR
      exact ret 0 (by decide) ⟨rfl, rfl⟩ (Nat.le_of_ble_eq_true rfl) (Nat.le_of_ble_eq_true rfl) dX9_isNoCell_23
    · replace hR := yf_t c_10 hR
      refine xr_iconst (n := 19) (v := 1) C dX9_isNoCell_18 rfl rfl ?_
      refine xr_goto (tgt := 23) C dX9_isNoCell_19 rfl ?_
      obtain rfl := Option.some.inj hR
      exact ret 1 (by decide) ⟨rfl, rfl⟩ (Nat.le_of_ble_eq_true rfl) (Nat.le_of_ble_eq_true rfl) dX9_isNoCell_23
theorem dX9_broken_0 : decode cX9_broken 0 = .ok (.aload_n 0, 1) := by decide +kernel
theorem dX9_broken_1 : decode cX9_broken 1 = .ok (.iload_n 1, 1) := by decide +kernel
theorem dX9_broken_2 : decode cX9_broken 2 = .ok (.iload_n 2, 1) := by decide +kernel
theorem dX9_broken_3 : decode cX9_broken 3 = .ok (.invokestatic 130, 3) := by decide +kernel
theorem dX9_broken_6 : decode cX9_broken 6 = .ok (.iconst 1, 1) := by decide +kernel
theorem dX9_broken_7 : decode cX9_broken 7 = .ok (.invokevirtual 79, 3) := by decide +kernel
theorem dX9_broken_10 : decode cX9_broken 10 = .ok (.ifCond .eq 5, 3) := by decide +kernel
theorem dX9_broken_13 : decode cX9_broken 13 = .ok (.iconst 0, 1) := by decide +kernel
theorem dX9_broken_14 : decode cX9_broken 14 = .ok (.ireturn, 1) := by decide +kernel
theorem dX9_broken_15 : decode cX9_broken 15 = .ok (.aload_n 0, 1) := by decide +kernel
theorem dX9_broken_16 : decode cX9_broken 16 = .ok (.getfield 24, 3) := by decide +kernel
theorem dX9_broken_19 : decode cX9_broken 19 = .ok (.iload_n 1, 1) := by decide +kernel
theorem dX9_broken_20 : decode cX9_broken 20 = .ok (.aaload, 1) := by decide +kernel
theorem dX9_broken_21 : decode cX9_broken 21 = .ok (.iload_n 2, 1) := by decide +kernel
theorem dX9_broken_22 : decode cX9_broken 22 = .ok (.iload_n 3, 1) := by decide +kernel
theorem dX9_broken_23 : decode cX9_broken 23 = .ok (.bastore, 1) := by decide +kernel
theorem dX9_broken_24 : decode cX9_broken 24 = .ok (.aload_n 0, 1) := by decide +kernel
theorem dX9_broken_25 : decode cX9_broken 25 = .ok (.getfield 27, 3) := by decide +kernel
theorem dX9_broken_28 : decode cX9_broken 28 = .ok (.iload_n 1, 1) := by decide +kernel
theorem dX9_broken_29 : decode cX9_broken 29 = .ok (.aaload, 1) := by decide +kernel
theorem dX9_broken_30 : decode cX9_broken 30 = .ok (.iload_n 2, 1) := by decide +kernel
theorem dX9_broken_31 : decode cX9_broken 31 = .ok (.dup2, 1) := by decide +kernel
theorem dX9_broken_32 : decode cX9_broken 32 = .ok (.baload, 1) := by decide +kernel
theorem dX9_broken_33 : decode cX9_broken 33 = .ok (.iload_n 3, 1) := by decide +kernel
theorem dX9_broken_34 : decode cX9_broken 34 = .ok (.iand, 1) := by decide +kernel
theorem dX9_broken_35 : decode cX9_broken 35 = .ok (.bastore, 1) := by decide +kernel
theorem dX9_broken_36 : decode cX9_broken 36 = .ok (.aload_n 0, 1) := by decide +kernel
theorem dX9_broken_37 : decode cX9_broken 37 = .ok (.aload_n 0, 1) := by decide +kernel
theorem dX9_broken_38 : decode cX9_broken 38 = .ok (.getfield 24, 3) := by decide +kernel
theorem dX9_broken_41 : decode cX9_broken 41 = .ok (.invokevirtual 133, 3) := by decide +kernel
theorem dX9_broken_44 : decode cX9_broken 44 = .ok (.ireturn, 1) := by decide +kernel
def fX9_broken_i (gBG : Nat → Nat → Int32) (gKG : Nat → Nat → Int32) (i1 : Int32) (i2 : Int32) (isb : Int32) : Option (Int32 × Int32 × (Nat → Nat → Int32) × (Nat → Nat → Int32)) := ((fX9_isNoCell i1 i2).bind fun x_1 => ((fX9_start_i x_1 1).bind fun x_5 => (if x_5.1 = 0 then (if ¬ (i1 < 0 ∨ 5 ≤ i1.toNatClampNeg) then (if ¬ (i2 < 0 ∨ 5 ≤ i2.toNatClampNeg) then (if ¬ (i1 < 0 ∨ 5 ≤ i1.toNatClampNeg) then (if ¬ (i2 < 0 ∨ 5 ≤ i2.toNatClampNeg) then (if ¬ (i2 < 0 ∨ 5 ≤ i2.toNatClampNeg) then ((fX9_count_i 5 5 (upg gBG i1.toNatClampNeg i2.toNatClampNeg (vp_nar .boolean isb))).bind fun x_15 => some (x_15, x_5.2, upg gBG i1.toNatClampNeg i2.toNatClampNeg (vp_nar .boolean isb), upg gKG i1.toNatClampNeg i2.toNatClampNeg (vp_nar .boolean ((gKG i1.toNatClampNeg i2.toNatClampNeg) &&& isb)))) else none) else none) else none) else none) else none) else some (0, x_5.2, gBG, gKG))))
abbrev hX9_broken : Cond := .code yX9_broken cX9_broken 4 (some .int)
theorem mX9_broken : yM yX9_broken hX9_broken 3 := ⟨u_1334, u_64, by decide +kernel, by decide +kernel, by decide +kernel⟩
set_option maxHeartbeats 4000000 in
set_option maxRecDepth 100000 in
theorem kX9_broken_i (l : Launch) (D : va_G) (cy : Nat → ClassId) (g : Nat) (gth : Int32) (gw : Nat) (gB : Nat) (gK : Nat) (gU : Nat) (gS : Nat) (gbe : Int32) (gwo : Int32) (gta : Int64) (glr : Int32) (glc : Int32) (gti : Int32) (ggo : Int32) (gR : Nat) (gch : Int32) (gD : Nat) (gBd : Nat → Nat) (gBG : Nat → Nat → Int32) (gKd : Nat → Nat) (gKG : Nat → Nat → Int32) (i1 : Int32) (i2 : Int32) (isb : Int32) {res : Int32 × Int32 × (Nat → Nat → Int32) × (Nat → Nat → Int32)} (hR : fX9_broken_i gBG gKG i1 i2 isb = some res) : YM l D cy yX9_broken hX9_broken 3 0 0 [.ref g, .int i1, .int i2, .int isb] [[(g, .inr (11, [.int gth, .ref gw, .ref gB, .ref gK, .ref gU, .ref gS, .int gbe, .int gwo, .long gta, .null, .int glr, .int glc, .int gti, .int ggo, .ref gR, .int gch, .ref gD]))], [(gB, .inl (cy 4, 5, .inr (.inr (.inr (.inr (yad gBd))))))], xg_rows gBd 5 (cy 2) 5 gBG, [(gK, .inl (cy 4, 5, .inr (.inr (.inr (.inr (yad gKd))))))], xg_rows gKd 5 (cy 2) 5 gKG] (fun v u => v = some (.int res.1) ∧ u = [[(g, .inr (11, [.int res.2.1, .ref gw, .ref gB, .ref gK, .ref gU, .ref gS, .int gbe, .int gwo, .long gta, .null, .int glr, .int glc, .int gti, .int ggo, .ref gR, .int gch, .ref gD]))], [(gB, .inl (cy 4, 5, .inr (.inr (.inr (.inr (yad gBd))))))], xg_rows gBd 5 (cy 2) 5 res.2.2.1, [(gK, .inl (cy 4, 5, .inr (.inr (.inr (.inr (yad gKd))))))], xg_rows gKd 5 (cy 2) 5 res.2.2.2]) := by
  unfold fX9_broken_i at hR
  refine YM.ofI (cc := cX9_broken) (maxL := 4) (ret := (some .int)) (by decide +kernel) rfl (Nat.le_of_ble_eq_true rfl) [(0, .ref g), (1, .int i1), (2, .int i2), (3, .int isb)] rfl rfl (fun p e s m args below meth c A H0 Q C hnm ret => ?_)
  refine xr_aload_n (n := 1) (j := 0) C dX9_broken_0 rfl rfl ?_
  refine xr_iload_n (n := 2) (j := 1) C dX9_broken_1 rfl rfl ?_
  refine xr_iload_n (n := 3) (j := 2) C dX9_broken_2 rfl rfl ?_
  obtain ⟨x_1, hx_1, hR⟩ := yf_b hR
  refine xr_callSp (n := 6) (As := [.int i1, .int i2]) (rest := [.ref g]) C (kX9_isNoCell l D cy (i1 := i1) (i2 := i2) hx_1) mX9_isNoCell u_1335 u_1336 5 [] [0, 1, 2, 3, 4] rfl (by decide +kernel) rfl rfl rfl rfl (Nat.le_of_ble_eq_true rfl) (Nat.le_of_ble_eq_true rfl) (Nat.le_of_ble_eq_true rfl) (Nat.le_of_ble_eq_true rfl) (Nat.le_of_ble_eq_true rfl) dX9_broken_3 rfl (fun _ _ hp => hp.2) (fun v_2 hp_4 => ?_)
  obtain ⟨rfl, -⟩ := hp_4
  refine xr_st (st' := [.int x_1, .ref g]) rfl ?_
  refine xr_iconst (n := 7) (v := 1) C dX9_broken_6 rfl rfl ?_
  obtain ⟨x_5, hx_5, hR⟩ := yf_b hR
  refine xr_callV (n := 10) (As := [.int x_1, .int 1]) (rest := []) C (kX9_start_i l D cy (g := g) (gth := gth) (gw := gw) (gB := gB) (gK := gK) (gU := gU) (gS := gS) (gbe := gbe) (gwo := gwo) (gta := gta) (glr := glr) (glc := glc) (gti := gti) (ggo := ggo) (gR := gR) (gch := gch) (gD := gD) (i1 := x_1) (i2 := 1) hx_5) mX9_start u_1301 u_1303 u_29 0 rfl rfl 5 [0] [1, 2, 3, 4] rfl (by decide +kernel) rfl rfl rfl rfl (Nat.le_of_ble_eq_true rfl) (Nat.le_of_ble_eq_true rfl) (Nat.le_of_ble_eq_true rfl) (Nat.le_of_ble_eq_true rfl) (Nat.le_of_ble_eq_true rfl) dX9_broken_7 rfl (fun v_6 u_7 hp_8 => ?_)
  obtain ⟨rfl, rfl⟩ := hp_8
  refine xr_perm C 5 [0, 1, 2, 3, 4] [] [[(g, .inr (11, [.int x_5.2, .ref gw, .ref gB, .ref gK, .ref gU, .ref gS, .int gbe, .int gwo, .long gta, .null, .int glr, .int glc, .int gti, .int ggo, .ref gR, .int gch, .ref gD]))], [(gB, .inl (cy 4, 5, .inr (.inr (.inr (.inr (yad gBd))))))], xg_rows gBd 5 (cy 2) 5 gBG, [(gK, .inl (cy 4, 5, .inr (.inr (.inr (.inr (yad gKd))))))], xg_rows gKd 5 (cy 2) 5 gKG] rfl (by decide +kernel) rfl ?_
  refine xr_st (st' := [.int x_5.1]) rfl ?_
  refine xr_if_eq (tgt := 15) (n := 13) C dX9_broken_10 rfl rfl (fun c_9 => ?_) (fun c_9 => ?_)
  · replace hR := yf_t c_9 hR
    refine xr_aload_n (n := 16) (j := 0) C dX9_broken_15 rfl rfl ?_
    refine xr_get (n := 19) C 0 rfl rfl 2 (by decide) in_X9 u_1239 rfl (v := .ref gB) rfl dX9_broken_16 rfl ?_
    refine xr_iload_n (n := 20) (j := 1) C dX9_broken_19 rfl rfl ?_
    obtain ⟨g_10, hR⟩ := yf_g hR
    refine xr_aald (n := 21) C 1 0 rfl 4 rfl rfl g_10 rfl dX9_broken_20 rfl ?_
    refine xr_iload_n (n := 22) (j := 2) C dX9_broken_21 rfl rfl ?_
    refine xr_iload_n (n := 23) (j := 3) C dX9_broken_22 rfl rfl ?_
    obtain ⟨g_11, hR⟩ := yf_g hR
    refine xr_zastg (n := 24) C 2 rfl i1.toNatClampNeg (ylt g_10) g_11 [[(g, .inr (11, [.int x_5.2, .ref gw, .ref gB, .ref gK, .ref gU, .ref gS, .int gbe, .int gwo, .long gta, .null, .int glr, .int glc, .int gti, .int ggo, .ref gR, .int gch, .ref gD]))], [(gB, .inl (cy 4, 5, .inr (.inr (.inr (.inr (yad gBd))))))], xg_rows gBd 5 (cy 2) 5 (upg gBG i1.toNatClampNeg i2.toNatClampNeg (vp_nar .boolean isb)), [(gK, .inl (cy 4, 5, .inr (.inr (.inr (.inr (yad gKd))))))], xg_rows gKd 5 (cy 2) 5 gKG] rfl dX9_broken_23 rfl ?_
    refine xr_aload_n (n := 25) (j := 0) C dX9_broken_24 rfl rfl ?_
    refine xr_get (n := 28) C 0 rfl rfl 3 (by decide) in_X9 u_1240 rfl (v := .ref gK) rfl dX9_broken_25 rfl ?_
    refine xr_iload_n (n := 29) (j := 1) C dX9_broken_28 rfl rfl ?_
    obtain ⟨g_12, hR⟩ := yf_g hR
    refine xr_aald (n := 30) C 3 0 rfl 4 rfl rfl g_12 rfl dX9_broken_29 rfl ?_
    refine xr_iload_n (n := 31) (j := 2) C dX9_broken_30 rfl rfl ?_
    refine xr_dup2 (n := 32) C dX9_broken_31 rfl rfl rfl ?_
    obtain ⟨g_13, hR⟩ := yf_g hR
    refine xr_zaldg (n := 33) C 4 rfl i1.toNatClampNeg (ylt g_12) g_13 dX9_broken_32 rfl ?_
    refine xr_iload_n (n := 34) (j := 3) C dX9_broken_33 rfl rfl ?_
    refine xr_iand (n := 35) C dX9_broken_34 rfl ?_
    obtain ⟨g_14, hR⟩ := yf_g hR
    refine xr_zastg (n := 36) C 4 rfl i1.toNatClampNeg (ylt g_12) g_14 [[(g, .inr (11, [.int x_5.2, .ref gw, .ref gB, .ref gK, .ref gU, .ref gS, .int gbe, .int gwo, .long gta, .null, .int glr, .int glc, .int gti, .int ggo, .ref gR, .int gch, .ref gD]))], [(gB, .inl (cy 4, 5, .inr (.inr (.inr (.inr (yad gBd))))))], xg_rows gBd 5 (cy 2) 5 (upg gBG i1.toNatClampNeg i2.toNatClampNeg (vp_nar .boolean isb)), [(gK, .inl (cy 4, 5, .inr (.inr (.inr (.inr (yad gKd))))))], xg_rows gKd 5 (cy 2) 5 (upg gKG i1.toNatClampNeg i2.toNatClampNeg (vp_nar .boolean ((gKG i1.toNatClampNeg i2.toNatClampNeg) &&& isb)))] rfl dX9_broken_35 rfl ?_
    refine xr_aload_n (n := 37) (j := 0) C dX9_broken_36 rfl rfl ?_
    refine xr_aload_n (n := 38) (j := 0) C dX9_broken_37 rfl rfl ?_
    refine xr_get (n := 41) C 0 rfl rfl 2 (by decide) in_X9 u_1239 rfl (v := .ref gB) rfl dX9_broken_38 rfl ?_
    obtain ⟨x_15, hx_15, hR⟩ := yf_b hR
    refine xr_callVp (n := 44) (As := [.ref gB]) (rest := []) C (kX9_count_i l D cy (g := g) (gth := x_5.2) (gw := gw) (gB := gB) (gK := gK) (gU := gU) (gS := gS) (gbe := gbe) (gwo := gwo) (gta := gta) (glr := glr) (glc := glc) (gti := gti) (ggo := ggo) (gR := gR) (gch := gch) (gD := gD) (h := gB) (hd := gBd) (hn := 5) (hk := 5) (hG := upg gBG i1.toNatClampNeg i2.toNatClampNeg (vp_nar .boolean isb)) hx_15) mX9_count u_1338 u_1340 u_31 0 rfl rfl 5 [0, 1, 2] [3, 4] rfl (by decide +kernel) rfl rfl rfl rfl (Nat.le_of_ble_eq_true rfl) (Nat.le_of_ble_eq_true rfl) (Nat.le_of_ble_eq_true rfl) (Nat.le_of_ble_eq_true rfl) (Nat.le_of_ble_eq_true rfl) dX9_broken_41 rfl (fun _ _ hp => hp.2) (fun v_16 hp_18 => ?_)
    obtain ⟨rfl, -⟩ := hp_18
    refine xr_st (st' := [.int x_15]) rfl ?_
    obtain rfl := Option.some.inj hR
    exact ret x_15 ⟨rfl, rfl⟩ (Nat.le_of_ble_eq_true rfl) (Nat.le_of_ble_eq_true rfl) dX9_broken_44
  · replace hR := yf_f c_9 hR
    refine xr_iconst (n := 14) (v := 0) C dX9_broken_13 rfl rfl ?_
    obtain rfl := Option.some.inj hR
    exact ret 0 ⟨rfl, rfl⟩ (Nat.le_of_ble_eq_true rfl) (Nat.le_of_ble_eq_true rfl) dX9_broken_14
def fX9_broken_r (gBG : Nat → Nat → Int32) (gKG : Nat → Nat → Int32) (i1 : Int32) (i2 : Int32) (isb : Int32) : Option (Int32 × Int32 × (Nat → Nat → Int32) × (Nat → Nat → Int32)) := ((fX9_isNoCell i1 i2).bind fun x_1 => ((fX9_start_r x_1 1).bind fun x_5 => (if x_5.1 = 0 then (if ¬ (i1 < 0 ∨ 5 ≤ i1.toNatClampNeg) then (if ¬ (i2 < 0 ∨ 5 ≤ i2.toNatClampNeg) then (if ¬ (i1 < 0 ∨ 5 ≤ i1.toNatClampNeg) then (if ¬ (i2 < 0 ∨ 5 ≤ i2.toNatClampNeg) then (if ¬ (i2 < 0 ∨ 5 ≤ i2.toNatClampNeg) then ((fX9_count_r 5 5 (upg gBG i1.toNatClampNeg i2.toNatClampNeg (vp_nar .boolean isb))).bind fun x_15 => some (x_15, x_5.2, upg gBG i1.toNatClampNeg i2.toNatClampNeg (vp_nar .boolean isb), upg gKG i1.toNatClampNeg i2.toNatClampNeg (vp_nar .boolean ((gKG i1.toNatClampNeg i2.toNatClampNeg) &&& isb)))) else none) else none) else none) else none) else none) else some (0, x_5.2, gBG, gKG))))
set_option maxHeartbeats 4000000 in
set_option maxRecDepth 100000 in
theorem kX9_broken_r (l : Launch) (D : va_G) (cy : Nat → ClassId) (g : Nat) (gth : Int32) (gw : Nat) (gB : Nat) (gK : Nat) (gU : Nat) (gS : Nat) (gbe : Int32) (gwo : Int32) (gta : Int64) (gn : Nat) (glr : Int32) (glc : Int32) (gti : Int32) (ggo : Int32) (gR : Nat) (gch : Int32) (gD : Nat) (gBd : Nat → Nat) (gBG : Nat → Nat → Int32) (gKd : Nat → Nat) (gKG : Nat → Nat → Int32) (i1 : Int32) (i2 : Int32) (isb : Int32) {res : Int32 × Int32 × (Nat → Nat → Int32) × (Nat → Nat → Int32)} (hR : fX9_broken_r gBG gKG i1 i2 isb = some res) : YM l D cy yX9_broken hX9_broken 3 0 0 [.ref g, .int i1, .int i2, .int isb] [[(g, .inr (11, [.int gth, .ref gw, .ref gB, .ref gK, .ref gU, .ref gS, .int gbe, .int gwo, .long gta, .ref gn, .int glr, .int glc, .int gti, .int ggo, .ref gR, .int gch, .ref gD]))], [(gB, .inl (cy 4, 5, .inr (.inr (.inr (.inr (yad gBd))))))], xg_rows gBd 5 (cy 2) 5 gBG, [(gK, .inl (cy 4, 5, .inr (.inr (.inr (.inr (yad gKd))))))], xg_rows gKd 5 (cy 2) 5 gKG] (fun v u => v = some (.int res.1) ∧ u = [[(g, .inr (11, [.int res.2.1, .ref gw, .ref gB, .ref gK, .ref gU, .ref gS, .int gbe, .int gwo, .long gta, .ref gn, .int glr, .int glc, .int gti, .int ggo, .ref gR, .int gch, .ref gD]))], [(gB, .inl (cy 4, 5, .inr (.inr (.inr (.inr (yad gBd))))))], xg_rows gBd 5 (cy 2) 5 res.2.2.1, [(gK, .inl (cy 4, 5, .inr (.inr (.inr (.inr (yad gKd))))))], xg_rows gKd 5 (cy 2) 5 res.2.2.2]) := by
  unfold fX9_broken_r at hR
  refine YM.ofI (cc := cX9_broken) (maxL := 4) (ret := (some .int)) (by decide +kernel) rfl (Nat.le_of_ble_eq_true rfl) [(0, .ref g), (1, .int i1), (2, .int i2), (3, .int isb)] rfl rfl (fun p e s m args below meth c A H0 Q C hnm ret => ?_)
  refine xr_aload_n (n := 1) (j := 0) C dX9_broken_0 rfl rfl ?_
  refine xr_iload_n (n := 2) (j := 1) C dX9_broken_1 rfl rfl ?_
  refine xr_iload_n (n := 3) (j := 2) C dX9_broken_2 rfl rfl ?_
  obtain ⟨x_1, hx_1, hR⟩ := yf_b hR
  refine xr_callSp (n := 6) (As := [.int i1, .int i2]) (rest := [.ref g]) C (kX9_isNoCell l D cy (i1 := i1) (i2 := i2) hx_1) mX9_isNoCell u_1335 u_1336 5 [] [0, 1, 2, 3, 4] rfl (by decide +kernel) rfl rfl rfl rfl (Nat.le_of_ble_eq_true rfl) (Nat.le_of_ble_eq_true rfl) (Nat.le_of_ble_eq_true rfl) (Nat.le_of_ble_eq_true rfl) (Nat.le_of_ble_eq_true rfl) dX9_broken_3 rfl (fun _ _ hp => hp.2) (fun v_2 hp_4 => ?_)
  obtain ⟨rfl, -⟩ := hp_4
  refine xr_st (st' := [.int x_1, .ref g]) rfl ?_
  refine xr_iconst (n := 7) (v := 1) C dX9_broken_6 rfl rfl ?_
  obtain ⟨x_5, hx_5, hR⟩ := yf_b hR
  refine xr_callV (n := 10) (As := [.int x_1, .int 1]) (rest := []) C (kX9_start_r l D cy (g := g) (gth := gth) (gw := gw) (gB := gB) (gK := gK) (gU := gU) (gS := gS) (gbe := gbe) (gwo := gwo) (gta := gta) (gn := gn) (glr := glr) (glc := glc) (gti := gti) (ggo := ggo) (gR := gR) (gch := gch) (gD := gD) (i1 := x_1) (i2 := 1) hx_5) mX9_start u_1301 u_1303 u_29 0 rfl rfl 5 [0] [1, 2, 3, 4] rfl (by decide +kernel) rfl rfl rfl rfl (Nat.le_of_ble_eq_true rfl) (Nat.le_of_ble_eq_true rfl) (Nat.le_of_ble_eq_true rfl) (Nat.le_of_ble_eq_true rfl) (Nat.le_of_ble_eq_true rfl) dX9_broken_7 rfl (fun v_6 u_7 hp_8 => ?_)
  obtain ⟨rfl, rfl⟩ := hp_8
  refine xr_perm C 5 [0, 1, 2, 3, 4] [] [[(g, .inr (11, [.int x_5.2, .ref gw, .ref gB, .ref gK, .ref gU, .ref gS, .int gbe, .int gwo, .long gta, .ref gn, .int glr, .int glc, .int gti, .int ggo, .ref gR, .int gch, .ref gD]))], [(gB, .inl (cy 4, 5, .inr (.inr (.inr (.inr (yad gBd))))))], xg_rows gBd 5 (cy 2) 5 gBG, [(gK, .inl (cy 4, 5, .inr (.inr (.inr (.inr (yad gKd))))))], xg_rows gKd 5 (cy 2) 5 gKG] rfl (by decide +kernel) rfl ?_
  refine xr_st (st' := [.int x_5.1]) rfl ?_
  refine xr_if_eq (tgt := 15) (n := 13) C dX9_broken_10 rfl rfl (fun c_9 => ?_) (fun c_9 => ?_)
  · replace hR := yf_t c_9 hR
    refine xr_aload_n (n := 16) (j := 0) C dX9_broken_15 rfl rfl ?_
    refine xr_get (n := 19) C 0 rfl rfl 2 (by decide) in_X9 u_1239 rfl (v := .ref gB) rfl dX9_broken_16 rfl ?_
    refine xr_iload_n (n := 20) (j := 1) C dX9_broken_19 rfl rfl ?_
    obtain ⟨g_10, hR⟩ := yf_g hR
    refine xr_aald (n := 21) C 1 0 rfl 4 rfl rfl g_10 rfl dX9_broken_20 rfl ?_
    refine xr_iload_n (n := 22) (j := 2) C dX9_broken_21 rfl rfl ?_
    refine xr_iload_n (n := 23) (j := 3) C dX9_broken_22 rfl rfl ?_
    obtain ⟨g_11, hR⟩ := yf_g hR
    refine xr_zastg (n := 24) C 2 rfl i1.toNatClampNeg (ylt g_10) g_11 [[(g, .inr (11, [.int x_5.2, .ref gw, .ref gB, .ref gK, .ref gU, .ref gS, .int gbe, .int gwo, .long gta, .ref gn, .int glr, .int glc, .int gti, .int ggo, .ref gR, .int gch, .ref gD]))], [(gB, .inl (cy 4, 5, .inr (.inr (.inr (.inr (yad gBd))))))], xg_rows gBd 5 (cy 2) 5 (upg gBG i1.toNatClampNeg i2.toNatClampNeg (vp_nar .boolean isb)), [(gK, .inl (cy 4, 5, .inr (.inr (.inr (.inr (yad gKd))))))], xg_rows gKd 5 (cy 2) 5 gKG] rfl dX9_broken_23 rfl ?_
    refine xr_aload_n (n := 25) (j := 0) C dX9_broken_24 rfl rfl ?_
    refine xr_get (n := 28) C 0 rfl rfl 3 (by decide) in_X9 u_1240 rfl (v := .ref gK) rfl dX9_broken_25 rfl ?_
    refine xr_iload_n (n := 29) (j := 1) C dX9_broken_28 rfl rfl ?_
    obtain ⟨g_12, hR⟩ := yf_g hR
    refine xr_aald (n := 30) C 3 0 rfl 4 rfl rfl g_12 rfl dX9_broken_29 rfl ?_
    refine xr_iload_n (n := 31) (j := 2) C dX9_broken_30 rfl rfl ?_
    refine xr_dup2 (n := 32) C dX9_broken_31 rfl rfl rfl ?_
    obtain ⟨g_13, hR⟩ := yf_g hR
    refine xr_zaldg (n := 33) C 4 rfl i1.toNatClampNeg (ylt g_12) g_13 dX9_broken_32 rfl ?_
    refine xr_iload_n (n := 34) (j := 3) C dX9_broken_33 rfl rfl ?_
    refine xr_iand (n := 35) C dX9_broken_34 rfl ?_
    obtain ⟨g_14, hR⟩ := yf_g hR
    refine xr_zastg (n := 36) C 4 rfl i1.toNatClampNeg (ylt g_12) g_14 [[(g, .inr (11, [.int x_5.2, .ref gw, .ref gB, .ref gK, .ref gU, .ref gS, .int gbe, .int gwo, .long gta, .ref gn, .int glr, .int glc, .int gti, .int ggo, .ref gR, .int gch, .ref gD]))], [(gB, .inl (cy 4, 5, .inr (.inr (.inr (.inr (yad gBd))))))], xg_rows gBd 5 (cy 2) 5 (upg gBG i1.toNatClampNeg i2.toNatClampNeg (vp_nar .boolean isb)), [(gK, .inl (cy 4, 5, .inr (.inr (.inr (.inr (yad gKd))))))], xg_rows gKd 5 (cy 2) 5 (upg gKG i1.toNatClampNeg i2.toNatClampNeg (vp_nar .boolean ((gKG i1.toNatClampNeg i2.toNatClampNeg) &&& isb)))] rfl dX9_broken_35 rfl ?_
    refine xr_aload_n (n := 37) (j := 0) C dX9_broken_36 rfl rfl ?_
    refine xr_aload_n (n := 38) (j := 0) C dX9_broken_37 rfl rfl ?_
    refine xr_get (n := 41) C 0 rfl rfl 2 (by decide) in_X9 u_1239 rfl (v := .ref gB) rfl dX9_broken_38 rfl ?_
    obtain ⟨x_15, hx_15, hR⟩ := yf_b hR
    refine xr_callVp (n := 44) (As := [.ref gB]) (rest := []) C (kX9_count_r l D cy (g := g) (gth := x_5.2) (gw := gw) (gB := gB) (gK := gK) (gU := gU) (gS := gS) (gbe := gbe) (gwo := gwo) (gta := gta) (gn := gn) (glr := glr) (glc := glc) (gti := gti) (ggo := ggo) (gR := gR) (gch := gch) (gD := gD) (h := gB) (hd := gBd) (hn := 5) (hk := 5) (hG := upg gBG i1.toNatClampNeg i2.toNatClampNeg (vp_nar .boolean isb)) hx_15) mX9_count u_1338 u_1340 u_31 0 rfl rfl 5 [0, 1, 2] [3, 4] rfl (by decide +kernel) rfl rfl rfl rfl (Nat.le_of_ble_eq_true rfl) (Nat.le_of_ble_eq_true rfl) (Nat.le_of_ble_eq_true rfl) (Nat.le_of_ble_eq_true rfl) (Nat.le_of_ble_eq_true rfl) dX9_broken_41 rfl (fun _ _ hp => hp.2) (fun v_16 hp_18 => ?_)
    obtain ⟨rfl, -⟩ := hp_18
    refine xr_st (st' := [.int x_15]) rfl ?_
    obtain rfl := Option.some.inj hR
    exact ret x_15 ⟨rfl, rfl⟩ (Nat.le_of_ble_eq_true rfl) (Nat.le_of_ble_eq_true rfl) dX9_broken_44
  · replace hR := yf_f c_9 hR
    refine xr_iconst (n := 14) (v := 0) C dX9_broken_13 rfl rfl ?_
    obtain rfl := Option.some.inj hR
    exact ret 0 ⟨rfl, rfl⟩ (Nat.le_of_ble_eq_true rfl) (Nat.le_of_ble_eq_true rfl) dX9_broken_14
theorem dX9_h_0 : decode cX9_h 0 = .ok (.aload_n 0, 1) := by decide +kernel
theorem dX9_h_1 : decode cX9_h 1 = .ok (.getfield 146, 3) := by decide +kernel
theorem dX9_h_4 : decode cX9_h 4 = .ok (.invokestatic 103, 3) := by decide +kernel
theorem dX9_h_7 : decode cX9_h 7 = .ok (.ireturn, 1) := by decide +kernel
def fX9_h (glr : Int32) : Option (Int32) := ((fJ6_bitCount_0f7a4 glr).bind fun x_1 => some x_1)
abbrev hX9_h : Cond := .code yX9_h cX9_h 1 (some .int)
theorem mX9_h : yM yX9_h hX9_h 0 := ⟨u_1433, u_64, by decide +kernel, by decide +kernel, by decide +kernel⟩
set_option maxHeartbeats 4000000 in
set_option maxRecDepth 100000 in
theorem kX9_h (l : Launch) (D : va_G) (cy : Nat → ClassId) (g : Nat) (gth : Int32) (gw : Nat) (gB : Nat) (gK : Nat) (gU : Nat) (gS : Nat) (gbe : Int32) (gwo : Int32) (gta : Int64) (gn : Nat) (glr : Int32) (glc : Int32) (gti : Int32) (ggo : Int32) (gR : Nat) (gch : Int32) (gD : Nat) {res : Int32} (hR : fX9_h glr = some res) : YM l D cy yX9_h hX9_h 2 0 0 [.ref g] [[(g, .inr (11, [.int gth, .ref gw, .ref gB, .ref gK, .ref gU, .ref gS, .int gbe, .int gwo, .long gta, .ref gn, .int glr, .int glc, .int gti, .int ggo, .ref gR, .int gch, .ref gD]))]] (fun v u => v = some (.int res) ∧ u = [[(g, .inr (11, [.int gth, .ref gw, .ref gB, .ref gK, .ref gU, .ref gS, .int gbe, .int gwo, .long gta, .ref gn, .int glr, .int glc, .int gti, .int ggo, .ref gR, .int gch, .ref gD]))]]) := by
  unfold fX9_h at hR
  refine YM.ofI (cc := cX9_h) (maxL := 1) (ret := (some .int)) (by decide +kernel) rfl (Nat.le_of_ble_eq_true rfl) [(0, .ref g)] rfl rfl (fun p e s m args below meth c A H0 Q C hnm ret => ?_)
  refine xr_aload_n (n := 1) (j := 0) C dX9_h_0 rfl rfl ?_
  refine xr_get (n := 4) C 0 rfl rfl 10 (by decide) in_X9 u_1247 rfl (v := .int glr) rfl dX9_h_1 rfl ?_
  obtain ⟨x_1, hx_1, hR⟩ := yf_b hR
  refine xr_callSp (n := 7) (As := [.int glr]) (rest := []) C (kJ6_bitCount_0f7a4 l D cy (i1 := glr) hx_1) mJ6_bitCount_0f7a4 u_1383 u_349 1 [] [0] rfl (by decide +kernel) rfl rfl rfl rfl (Nat.le_of_ble_eq_true rfl) (Nat.le_of_ble_eq_true rfl) (Nat.le_of_ble_eq_true rfl) (Nat.le_of_ble_eq_true rfl) (Nat.le_of_ble_eq_true rfl) dX9_h_4 rfl (fun _ _ hp => hp.2) (fun v_2 hp_4 => ?_)
  obtain ⟨rfl, -⟩ := hp_4
  refine xr_st (st' := [.int x_1]) rfl ?_
  obtain rfl := Option.some.inj hR
  exact ret x_1 ⟨rfl, rfl⟩ (Nat.le_of_ble_eq_true rfl) (Nat.le_of_ble_eq_true rfl) dX9_h_7
theorem dX9_w_0 : decode cX9_w 0 = .ok (.aload_n 0, 1) := by decide +kernel
theorem dX9_w_1 : decode cX9_w 1 = .ok (.getfield 149, 3) := by decide +kernel
theorem dX9_w_4 : decode cX9_w 4 = .ok (.invokestatic 103, 3) := by decide +kernel
theorem dX9_w_7 : decode cX9_w 7 = .ok (.ireturn, 1) := by decide +kernel
def fX9_w (glc : Int32) : Option (Int32) := ((fJ6_bitCount_0f7a4 glc).bind fun x_1 => some x_1)
abbrev hX9_w : Cond := .code yX9_w cX9_w 1 (some .int)
theorem mX9_w : yM yX9_w hX9_w 0 := ⟨u_1429, u_64, by decide +kernel, by decide +kernel, by decide +kernel⟩
set_option maxHeartbeats 4000000 in
set_option maxRecDepth 100000 in
theorem kX9_w (l : Launch) (D : va_G) (cy : Nat → ClassId) (g : Nat) (gth : Int32) (gw : Nat) (gB : Nat) (gK : Nat) (gU : Nat) (gS : Nat) (gbe : Int32) (gwo : Int32) (gta : Int64) (gn : Nat) (glr : Int32) (glc : Int32) (gti : Int32) (ggo : Int32) (gR : Nat) (gch : Int32) (gD : Nat) {res : Int32} (hR : fX9_w glc = some res) : YM l D cy yX9_w hX9_w 2 0 0 [.ref g] [[(g, .inr (11, [.int gth, .ref gw, .ref gB, .ref gK, .ref gU, .ref gS, .int gbe, .int gwo, .long gta, .ref gn, .int glr, .int glc, .int gti, .int ggo, .ref gR, .int gch, .ref gD]))]] (fun v u => v = some (.int res) ∧ u = [[(g, .inr (11, [.int gth, .ref gw, .ref gB, .ref gK, .ref gU, .ref gS, .int gbe, .int gwo, .long gta, .ref gn, .int glr, .int glc, .int gti, .int ggo, .ref gR, .int gch, .ref gD]))]]) := by
  unfold fX9_w at hR
  refine YM.ofI (cc := cX9_w) (maxL := 1) (ret := (some .int)) (by decide +kernel) rfl (Nat.le_of_ble_eq_true rfl) [(0, .ref g)] rfl rfl (fun p e s m args below meth c A H0 Q C hnm ret => ?_)
  refine xr_aload_n (n := 1) (j := 0) C dX9_w_0 rfl rfl ?_
  refine xr_get (n := 4) C 0 rfl rfl 11 (by decide) in_X9 u_1248 rfl (v := .int glc) rfl dX9_w_1 rfl ?_
  obtain ⟨x_1, hx_1, hR⟩ := yf_b hR
  refine xr_callSp (n := 7) (As := [.int glc]) (rest := []) C (kJ6_bitCount_0f7a4 l D cy (i1 := glc) hx_1) mJ6_bitCount_0f7a4 u_1383 u_349 1 [] [0] rfl (by decide +kernel) rfl rfl rfl rfl (Nat.le_of_ble_eq_true rfl) (Nat.le_of_ble_eq_true rfl) (Nat.le_of_ble_eq_true rfl) (Nat.le_of_ble_eq_true rfl) (Nat.le_of_ble_eq_true rfl) dX9_w_4 rfl (fun _ _ hp => hp.2) (fun v_2 hp_4 => ?_)
  obtain ⟨rfl, -⟩ := hp_4
  refine xr_st (st' := [.int x_1]) rfl ?_
  obtain rfl := Option.some.inj hR
  exact ret x_1 ⟨rfl, rfl⟩ (Nat.le_of_ble_eq_true rfl) (Nat.le_of_ble_eq_true rfl) dX9_w_7
