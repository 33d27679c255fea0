theorem u_1503 : Cond.code yX9_off cX9_off 7 (some .int) ∈ yU := yu 1503 (by decide +kernel) (by decide +kernel)
theorem u_1500 : Cond.methodLink RX9 231 yX9_off ∈ yU := yu 1500 (by decide +kernel) (by decide +kernel)
theorem u_1502 : Cond.instanceMethod yX9_off ∈ yU := yu 1502 (by decide +kernel) (by decide +kernel)
theorem u_47 : Cond.selects RX9 yX9_off yX9_off ∈ yU := yu 47 (by decide +kernel) (by decide +kernel)
theorem u_1507 : Cond.code yX9_wrong cX9_wrong 4 (some .int) ∈ yU := yu 1507 (by decide +kernel) (by decide +kernel)
theorem u_1504 : Cond.methodLink RX9 238 yX9_wrong ∈ yU := yu 1504 (by decide +kernel) (by decide +kernel)
theorem u_1506 : Cond.instanceMethod yX9_wrong ∈ yU := yu 1506 (by decide +kernel) (by decide +kernel)
theorem u_48 : Cond.selects RX9 yX9_wrong yX9_wrong ∈ yU := yu 48 (by decide +kernel) (by decide +kernel)
theorem u_1499 : Cond.code yX9_severalOr cX9_severalOr 4 (some .int) ∈ yU := yu 1499 (by decide +kernel) (by decide +kernel)
theorem dX9_off_0 : decode cX9_off 0 = .ok (.iload_n 1, 1) := by decide +kernel
theorem dX9_off_1 : decode cX9_off 1 = .ok (.ifCond .eq 13, 3) := by decide +kernel
theorem dX9_off_4 : decode cX9_off 4 = .ok (.aload_n 0, 1) := by decide +kernel
theorem dX9_off_5 : decode cX9_off 5 = .ok (.getfield 38, 3) := by decide +kernel
theorem dX9_off_8 : decode cX9_off 8 = .ok (.iconst 0, 1) := by decide +kernel
theorem dX9_off_9 : decode cX9_off 9 = .ok (.aaload, 1) := by decide +kernel
theorem dX9_off_10 : decode cX9_off 10 = .ok (.arraylength, 1) := by decide +kernel
theorem dX9_off_11 : decode cX9_off 11 = .ok (.goto 8, 3) := by decide +kernel
theorem dX9_off_14 : decode cX9_off 14 = .ok (.aload_n 0, 1) := by decide +kernel
theorem dX9_off_15 : decode cX9_off 15 = .ok (.getfield 38, 3) := by decide +kernel
theorem dX9_off_18 : decode cX9_off 18 = .ok (.arraylength, 1) := by decide +kernel
theorem dX9_off_19 : decode cX9_off 19 = .ok (.istore_n 3, 1) := by decide +kernel
theorem dX9_off_20 : decode cX9_off 20 = .ok (.iconst 0, 1) := by decide +kernel
theorem dX9_off_21 : decode cX9_off 21 = .ok (.istore 4, 2) := by decide +kernel
theorem dX9_off_23 : decode cX9_off 23 = .ok (.iconst 0, 1) := by decide +kernel
theorem dX9_off_24 : decode cX9_off 24 = .ok (.istore 5, 2) := by decide +kernel
theorem dX9_off_26 : decode cX9_off 26 = .ok (.iload 5, 2) := by decide +kernel
theorem dX9_off_28 : decode cX9_off 28 = .ok (.iload_n 3, 1) := by decide +kernel
theorem dX9_off_29 : decode cX9_off 29 = .ok (.if_icmp .ge 57, 3) := by decide +kernel
theorem dX9_off_32 : decode cX9_off 32 = .ok (.iload_n 1, 1) := by decide +kernel
theorem dX9_off_33 : decode cX9_off 33 = .ok (.ifCond .eq 15, 3) := by decide +kernel
theorem dX9_off_36 : decode cX9_off 36 = .ok (.aload_n 0, 1) := by decide +kernel
theorem dX9_off_37 : decode cX9_off 37 = .ok (.getfield 38, 3) := by decide +kernel
theorem dX9_off_40 : decode cX9_off 40 = .ok (.iload_n 2, 1) := by decide +kernel
theorem dX9_off_41 : decode cX9_off 41 = .ok (.aaload, 1) := by decide +kernel
theorem dX9_off_42 : decode cX9_off 42 = .ok (.iload 5, 2) := by decide +kernel
theorem dX9_off_44 : decode cX9_off 44 = .ok (.iaload, 1) := by decide +kernel
theorem dX9_off_45 : decode cX9_off 45 = .ok (.goto 12, 3) := by decide +kernel
theorem dX9_off_48 : decode cX9_off 48 = .ok (.aload_n 0, 1) := by decide +kernel
theorem dX9_off_49 : decode cX9_off 49 = .ok (.getfield 38, 3) := by decide +kernel
theorem dX9_off_52 : decode cX9_off 52 = .ok (.iload 5, 2) := by decide +kernel
theorem dX9_off_54 : decode cX9_off 54 = .ok (.aaload, 1) := by decide +kernel
theorem dX9_off_55 : decode cX9_off 55 = .ok (.iload_n 2, 1) := by decide +kernel
theorem dX9_off_56 : decode cX9_off 56 = .ok (.iaload, 1) := by decide +kernel
theorem dX9_off_57 : decode cX9_off 57 = .ok (.istore 6, 2) := by decide +kernel
theorem dX9_off_59 : decode cX9_off 59 = .ok (.iload 4, 2) := by decide +kernel
theorem dX9_off_61 : decode cX9_off 61 = .ok (.iload 5, 2) := by decide +kernel
theorem dX9_off_63 : decode cX9_off 63 = .ok (.iload_n 3, 1) := by decide +kernel
theorem dX9_off_64 : decode cX9_off 64 = .ok (.iconst 1, 1) := by decide +kernel
theorem dX9_off_65 : decode cX9_off 65 = .ok (.isub, 1) := by decide +kernel
theorem dX9_off_66 : decode cX9_off 66 = .ok (.if_icmp .ne 8, 3) := by decide +kernel
theorem dX9_off_69 : decode cX9_off 69 = .ok (.iload 6, 2) := by decide +kernel
theorem dX9_off_71 : decode cX9_off 71 = .ok (.goto 6, 3) := by decide +kernel
theorem dX9_off_74 : decode cX9_off 74 = .ok (.iload 6, 2) := by decide +kernel
theorem dX9_off_76 : decode cX9_off 76 = .ok (.ineg, 1) := by decide +kernel
theorem dX9_off_77 : decode cX9_off 77 = .ok (.iadd, 1) := by decide +kernel
theorem dX9_off_78 : decode cX9_off 78 = .ok (.istore 4, 2) := by decide +kernel
theorem dX9_off_80 : decode cX9_off 80 = .ok (.iinc 5 1, 3) := by decide +kernel
theorem dX9_off_83 : decode cX9_off 83 = .ok (.goto (-57), 3) := by decide +kernel
theorem dX9_off_86 : decode cX9_off 86 = .ok (.iload 4, 2) := by decide +kernel
theorem dX9_off_88 : decode cX9_off 88 = .ok (.ireturn, 1) := by decide +kernel
def fX9_off_i (gRn : Nat) (gRk : Nat) (gRG : Nat → Nat → Int32) (i1 : Int32) (i2 : Int32) : Option (Int32) := ((((if i1 = 0 then some (nI gRn) else (if ¬ ((0 : Int32) < 0 ∨ gRn ≤ (0 : Int32).toNatClampNeg) then some (nI gRk) else none)) : Option (Int32))).bind fun r_3 => ((wl (S := Int32 × Int32) (B := Int32 × Int32) (fun s_4 => (if r_3 ≤ s_4.2 then some (.inr (s_4.1, s_4.2)) else ((((if i1 = 0 then (if ¬ (s_4.2 < 0 ∨ gRn ≤ s_4.2.toNatClampNeg) then (if ¬ (i2 < 0 ∨ gRk ≤ i2.toNatClampNeg) then some (gRG s_4.2.toNatClampNeg i2.toNatClampNeg) else none) else none) else (if ¬ (i2 < 0 ∨ gRn ≤ i2.toNatClampNeg) then (if ¬ (s_4.2 < 0 ∨ gRk ≤ s_4.2.toNatClampNeg) then some (gRG i2.toNatClampNeg s_4.2.toNatClampNeg) else none) else none)) : Option (Int32))).bind fun r_12 => ((((if s_4.2 = (r_3 - 1) then some r_12 else some (-r_12)) : Option (Int32))).bind fun r_14 => some (.inl (s_4.1 + r_14, s_4.2 + 1)))))) yFuel (0, 0)).bind fun b_4 => some b_4.1))
abbrev hX9_off : Cond := .code yX9_off cX9_off 7 (some .int)
theorem mX9_off : yM yX9_off hX9_off 2 := ⟨u_1503, u_64, by decide +kernel, by decide +kernel, by decide +kernel⟩
set_option maxHeartbeats 4000000 in
set_option maxRecDepth 100000 in
theorem kX9_off_i (l : Launch) (D : va_G) (cy : Nat → ClassId) (g : Nat) (gth : Int32) (gw : Nat) (gB : Nat) (gK : Nat) (gU : Nat) (gS : Nat) (gbe : Int32) (gwo : Int32) (gta : Int64) (glr : Int32) (glc : Int32) (gti : Int32) (ggo : Int32) (gR : Nat) (gch : Int32) (gD : Nat) (gRd : Nat → Nat) (gRn : Nat) (gRk : Nat) (gRG : Nat → Nat → Int32) (i1 : Int32) (i2 : Int32) {res : Int32} (hR : fX9_off_i gRn gRk gRG i1 i2 = some res) : YM l D cy yX9_off hX9_off 1 0 0 [.ref g, .int i1, .int i2] [[(g, .inr (11, [.int gth, .ref gw, .ref gB, .ref gK, .ref gU, .ref gS, .int gbe, .int gwo, .long gta, .null, .int glr, .int glc, .int gti, .int ggo, .ref gR, .int gch, .ref gD]))], [(gR, .inl (cy 3, gRn, .inr (.inr (.inr (.inr (yad gRd))))))], xg_rows gRd gRn (cy 1) gRk gRG] (fun v u => v = some (.int res) ∧ u = [[(g, .inr (11, [.int gth, .ref gw, .ref gB, .ref gK, .ref gU, .ref gS, .int gbe, .int gwo, .long gta, .null, .int glr, .int glc, .int gti, .int ggo, .ref gR, .int gch, .ref gD]))], [(gR, .inl (cy 3, gRn, .inr (.inr (.inr (.inr (yad gRd))))))], xg_rows gRd gRn (cy 1) gRk gRG]) := by
  unfold fX9_off_i at hR
  refine YM.ofI (cc := cX9_off) (maxL := 7) (ret := (some .int)) (by decide +kernel) rfl (Nat.le_of_ble_eq_true rfl) [(0, .ref g), (1, .int i1), (2, .int i2)] rfl rfl (fun p e s m args below meth c A H0 Q C hnm ret => ?_)
  refine xr_iload_n (n := 1) (j := 1) C dX9_off_0 rfl rfl ?_
  obtain ⟨r_3, hE_3, hR⟩ := yf_b hR
  have J_3 : X p l e (yR 1 0 0) s m args below meth c D A H0 7 Q [[(g, .inr (11, [.int gth, .ref gw, .ref gB, .ref gK, .ref gU, .ref gS, .int gbe, .int gwo, .long gta, .null, .int glr, .int glc, .int gti, .int ggo, .ref gR, .int gch, .ref gD]))], [(gR, .inl (cy 3, gRn, .inr (.inr (.inr (.inr (yad gRd))))))], xg_rows gRd gRn (cy 1) gRk gRG] 0 0 [(0, .ref g), (1, .int i1), (2, .int i2)] 19 [.int r_3] := by
    refine xr_istore_n (n := 20) C [(3, .int r_3), (0, .ref g), (1, .int i1), (2, .int i2)] dX9_off_19 (by decide) rfl rfl ?_
    refine xr_iconst (n := 21) (v := 0) C dX9_off_20 rfl rfl ?_
    refine xr_istore (n := 23) C [(4, .int 0), (3, .int r_3), (0, .ref g), (1, .int i1), (2, .int i2)] dX9_off_21 (by decide) rfl rfl ?_
    refine xr_iconst (n := 24) (v := 0) C dX9_off_23 rfl rfl ?_
    refine xr_istore (n := 26) C [(5, .int 0), (4, .int 0), (3, .int r_3), (0, .ref g), (1, .int i1), (2, .int i2)] dX9_off_24 (by decide) rfl rfl ?_
    refine xr_lv (lv' := [(0, .ref g), (1, .int i1), (2, .int i2), (3, .int r_3), (4, .int 0), (5, .int 0)]) [3, 4, 5, 2, 1, 0] rfl ?_
    obtain ⟨b_4, hb_4, hR⟩ := yf_b hR
    have K_4 : X p l e (yR 1 0 0) s m args below meth c D A H0 7 Q [[(g, .inr (11, [.int gth, .ref gw, .ref gB, .ref gK, .ref gU, .ref gS, .int gbe, .int gwo, .long gta, .null, .int glr, .int glc, .int gti, .int ggo, .ref gR, .int gch, .ref gD]))], [(gR, .inl (cy 3, gRn, .inr (.inr (.inr (.inr (yad gRd))))))], xg_rows gRd gRn (cy 1) gRk gRG] 0 0 [(4, .int b_4.1)] 86 [] := by
      refine xr_iload (n := 88) (j := 0) C dX9_off_86 rfl rfl ?_
      obtain rfl := Option.some.inj hR
      exact ret b_4.1 ⟨rfl, rfl⟩ (Nat.le_of_ble_eq_true rfl) (Nat.le_of_ble_eq_true rfl) dX9_off_88
    refine y_loop (P := fun s_4 => X p l e (yR 1 0 0) s m args below meth c D A H0 7 Q [[(g, .inr (11, [.int gth, .ref gw, .ref gB, .ref gK, .ref gU, .ref gS, .int gbe, .int gwo, .long gta, .null, .int glr, .int glc, .int gti, .int ggo, .ref gR, .int gch, .ref gD]))], [(gR, .inl (cy 3, gRn, .inr (.inr (.inr (.inr (yad gRd))))))], xg_rows gRd gRn (cy 1) gRk gRG] 0 0 [(0, .ref g), (1, .int i1), (2, .int i2), (3, .int r_3), (4, .int s_4.1), (5, .int s_4.2)] 26 []) ?_ _ _ hb_4
    intro s_4 o_4 ho_4 hk_4 hx_4
    refine xr_iload (n := 28) (j := 5) C dX9_off_26 rfl rfl ?_
    refine xr_iload_n (n := 29) (j := 3) C dX9_off_28 rfl rfl ?_
    refine xr_icmp_ge (tgt := 86) (n := 32) C dX9_off_29 rfl rfl (fun c_5 => ?_) (fun c_5 => ?_)
    · replace ho_4 := yf_t c_5 ho_4
      refine xr_lv (lv' := [(4, .int s_4.1)]) [4] rfl ?_
      have e_6 := hx_4 _ (Option.some.inj ho_4).symm
      subst e_6
      exact K_4
    · replace ho_4 := yf_f c_5 ho_4
      refine xr_iload_n (n := 33) (j := 1) C dX9_off_32 rfl rfl ?_
      obtain ⟨r_12, hE_12, ho_4⟩ := yf_b ho_4
      have J_12 : X p l e (yR 1 0 0) s m args below meth c D A H0 7 Q [[(g, .inr (11, [.int gth, .ref gw, .ref gB, .ref gK, .ref gU, .ref gS, .int gbe, .int gwo, .long gta, .null, .int glr, .int glc, .int gti, .int ggo, .ref gR, .int gch, .ref gD]))], [(gR, .inl (cy 3, gRn, .inr (.inr (.inr (.inr (yad gRd))))))], xg_rows gRd gRn (cy 1) gRk gRG] 0 0 [(0, .ref g), (1, .int i1), (2, .int i2), (3, .int r_3), (4, .int s_4.1), (5, .int s_4.2)] 57 [.int r_12] := by
        refine xr_istore (n := 59) C [(6, .int r_12), (0, .ref g), (1, .int i1), (2, .int i2), (3, .int r_3), (4, .int s_4.1), (5, .int s_4.2)] dX9_off_57 (by decide) rfl rfl ?_
        refine xr_iload (n := 61) (j := 5) C dX9_off_59 rfl rfl ?_
        refine xr_iload (n := 63) (j := 6) C dX9_off_61 rfl rfl ?_
        refine xr_iload_n (n := 64) (j := 4) C dX9_off_63 rfl rfl ?_
        refine xr_iconst (n := 65) (v := 1) C dX9_off_64 rfl rfl ?_
        refine xr_isub (n := 66) C dX9_off_65 rfl ?_
        obtain ⟨r_14, hE_14, ho_4⟩ := yf_b ho_4
        have J_14 : X p l e (yR 1 0 0) s m args below meth c D A H0 7 Q [[(g, .inr (11, [.int gth, .ref gw, .ref gB, .ref gK, .ref gU, .ref gS, .int gbe, .int gwo, .long gta, .null, .int glr, .int glc, .int gti, .int ggo, .ref gR, .int gch, .ref gD]))], [(gR, .inl (cy 3, gRn, .inr (.inr (.inr (.inr (yad gRd))))))], xg_rows gRd gRn (cy 1) gRk gRG] 0 0 [(0, .ref g), (1, .int i1), (2, .int i2), (3, .int r_3), (5, .int s_4.2)] 77 [.int r_14, .int s_4.1] := by
          refine xr_iadd (n := 78) C dX9_off_77 rfl ?_
          refine xr_istore (n := 80) C [(4, .int (s_4.1 + r_14)), (0, .ref g), (1, .int i1), (2, .int i2), (3, .int r_3), (5, .int s_4.2)] dX9_off_78 (by decide) rfl rfl ?_
          refine xr_iinc (j := 5) (v := s_4.2 + 1) (n := 83) C [(5, .int (s_4.2 + 1)), (4, .int (s_4.1 + r_14)), (0, .ref g), (1, .int i1), (2, .int i2), (3, .int r_3)] dX9_off_80 rfl rfl (by decide) rfl rfl ?_
          refine xr_goto (tgt := 26) C dX9_off_83 rfl ?_
          refine xr_lv (lv' := [(0, .ref g), (1, .int i1), (2, .int i2), (3, .int r_3), (4, .int (s_4.1 + r_14)), (5, .int (s_4.2 + 1))]) [2, 3, 4, 5, 1, 0] rfl ?_
          exact hk_4 _ (Option.some.inj ho_4).symm
        refine xr_icmp_ne (tgt := 74) (n := 69) C dX9_off_66 rfl rfl (fun c_15 => ?_) (fun c_15 => ?_)
        · replace hE_14 := yf_f c_15 hE_14
          refine xr_iload (n := 76) (j := 0) C dX9_off_74 rfl rfl ?_
          refine xr_ineg (n := 77) C dX9_off_76 rfl ?_
          refine xr_lv (lv' := [(0, .ref g), (1, .int i1), (2, .int i2), (3, .int r_3), (5, .int s_4.2)]) [1, 2, 3, 4, 6] rfl ?_
          have e_16 := Option.some.inj hE_14
          subst e_16
          exact J_14
        · replace hE_14 := yf_t c_15 hE_14
          refine xr_iload (n := 71) (j := 0) C dX9_off_69 rfl rfl ?_
          refine xr_goto (tgt := 77) C dX9_off_71 rfl ?_
          refine xr_lv (lv' := [(0, .ref g), (1, .int i1), (2, .int i2), (3, .int r_3), (5, .int s_4.2)]) [1, 2, 3, 4, 6] rfl ?_
          have e_17 := Option.some.inj hE_14
          subst e_17
          exact J_14
      refine xr_if_eq (tgt := 48) (n := 36) C dX9_off_33 rfl rfl (fun c_18 => ?_) (fun c_18 => ?_)
      · replace hE_12 := yf_t c_18 hE_12
        refine xr_aload_n (n := 49) (j := 0) C dX9_off_48 rfl rfl ?_
        refine xr_get (n := 52) C 0 rfl rfl 14 (by decide) in_X9 u_1251 rfl (v := .ref gR) rfl dX9_off_49 rfl ?_
        refine xr_iload (n := 54) (j := 5) C dX9_off_52 rfl rfl ?_
        obtain ⟨g_19, hE_12⟩ := yf_g hE_12
        refine xr_aald (n := 55) C 1 0 rfl 3 rfl rfl g_19 rfl dX9_off_54 rfl ?_
        refine xr_iload_n (n := 56) (j := 2) C dX9_off_55 rfl rfl ?_
        obtain ⟨g_20, hE_12⟩ := yf_g hE_12
        refine xr_ialdg (n := 57) C 2 rfl s_4.2.toNatClampNeg (ylt g_19) g_20 dX9_off_56 rfl ?_
        have e_21 := Option.some.inj hE_12
        subst e_21
        exact J_12
      · replace hE_12 := yf_f c_18 hE_12
        refine xr_aload_n (n := 37) (j := 0) C dX9_off_36 rfl rfl ?_
        refine xr_get (n := 40) C 0 rfl rfl 14 (by decide) in_X9 u_1251 rfl (v := .ref gR) rfl dX9_off_37 rfl ?_
        refine xr_iload_n (n := 41) (j := 2) C dX9_off_40 rfl rfl ?_
        obtain ⟨g_22, hE_12⟩ := yf_g hE_12
        refine xr_aald (n := 42) C 1 0 rfl 3 rfl rfl g_22 rfl dX9_off_41 rfl ?_
        refine xr_iload (n := 44) (j := 5) C dX9_off_42 rfl rfl ?_
        obtain ⟨g_23, hE_12⟩ := yf_g hE_12
        refine xr_ialdg (n := 45) C 2 rfl i2.toNatClampNeg (ylt g_22) g_23 dX9_off_44 rfl ?_
        refine xr_goto (tgt := 57) C dX9_off_45 rfl ?_
        have e_24 := Option.some.inj hE_12
        subst e_24
        exact J_12
  refine xr_if_eq (tgt := 14) (n := 4) C dX9_off_1 rfl rfl (fun c_25 => ?_) (fun c_25 => ?_)
  · replace hE_3 := yf_t c_25 hE_3
    refine xr_aload_n (n := 15) (j := 0) C dX9_off_14 rfl rfl ?_
    refine xr_get (n := 18) C 0 rfl rfl 14 (by decide) in_X9 u_1251 rfl (v := .ref gR) rfl dX9_off_15 rfl ?_
    refine xr_alen (n := 19) C 1 0 rfl 3 rfl rfl dX9_off_18 rfl ?_
    have e_26 := Option.some.inj hE_3
    subst e_26
    exact J_3
  · replace hE_3 := yf_f c_25 hE_3
    refine xr_aload_n (n := 5) (j := 0) C dX9_off_4 rfl rfl ?_
    refine xr_get (n := 8) C 0 rfl rfl 14 (by decide) in_X9 u_1251 rfl (v := .ref gR) rfl dX9_off_5 rfl ?_
    refine xr_iconst (n := 9) (v := 0) C dX9_off_8 rfl rfl ?_
    obtain ⟨g_27, hE_3⟩ := yf_g hE_3
    refine xr_aald (n := 10) C 1 0 rfl 3 rfl rfl g_27 rfl dX9_off_9 rfl ?_
    refine xr_aleng (n := 11) C 2 1 rfl ((0 : Int32).toNatClampNeg) (ylt g_27) rfl dX9_off_10 rfl ?_
    refine xr_goto (tgt := 19) C dX9_off_11 rfl ?_
    have e_28 := Option.some.inj hE_3
    subst e_28
    exact J_3
def fX9_off_r (gRn : Nat) (gRk : Nat) (gRG : Nat → Nat → Int32) (i1 : Int32) (i2 : Int32) : Option (Int32) := ((((if i1 = 0 then some (nI gRn) else (if ¬ ((0 : Int32) < 0 ∨ gRn ≤ (0 : Int32).toNatClampNeg) then some (nI gRk) else none)) : Option (Int32))).bind fun r_3 => ((wl (S := Int32 × Int32) (B := Int32 × Int32) (fun s_4 => (if r_3 ≤ s_4.2 then some (.inr (s_4.1, s_4.2)) else ((((if i1 = 0 then (if ¬ (s_4.2 < 0 ∨ gRn ≤ s_4.2.toNatClampNeg) then (if ¬ (i2 < 0 ∨ gRk ≤ i2.toNatClampNeg) then some (gRG s_4.2.toNatClampNeg i2.toNatClampNeg) else none) else none) else (if ¬ (i2 < 0 ∨ gRn ≤ i2.toNatClampNeg) then (if ¬ (s_4.2 < 0 ∨ gRk ≤ s_4.2.toNatClampNeg) then some (gRG i2.toNatClampNeg s_4.2.toNatClampNeg) else none) else none)) : Option (Int32))).bind fun r_12 => ((((if s_4.2 = (r_3 - 1) then some r_12 else some (-r_12)) : Option (Int32))).bind fun r_14 => some (.inl (s_4.1 + r_14, s_4.2 + 1)))))) yFuel (0, 0)).bind fun b_4 => some b_4.1))
set_option maxHeartbeats 4000000 in
set_option maxRecDepth 100000 in
theorem kX9_off_r (l : Launch) (D : va_G) (cy : Nat → ClassId) (g : Nat) (gth : Int32) (gw : Nat) (gB : Nat) (gK : Nat) (gU : Nat) (gS : Nat) (gbe : Int32) (gwo : Int32) (gta : Int64) (gn : Nat) (glr : Int32) (glc : Int32) (gti : Int32) (ggo : Int32) (gR : Nat) (gch : Int32) (gD : Nat) (gRd : Nat → Nat) (gRn : Nat) (gRk : Nat) (gRG : Nat → Nat → Int32) (i1 : Int32) (i2 : Int32) {res : Int32} (hR : fX9_off_r gRn gRk gRG i1 i2 = some res) : YM l D cy yX9_off hX9_off 1 0 0 [.ref g, .int i1, .int i2] [[(g, .inr (11, [.int gth, .ref gw, .ref gB, .ref gK, .ref gU, .ref gS, .int gbe, .int gwo, .long gta, .ref gn, .int glr, .int glc, .int gti, .int ggo, .ref gR, .int gch, .ref gD]))], [(gR, .inl (cy 3, gRn, .inr (.inr (.inr (.inr (yad gRd))))))], xg_rows gRd gRn (cy 1) gRk gRG] (fun v u => v = some (.int res) ∧ u = [[(g, .inr (11, [.int gth, .ref gw, .ref gB, .ref gK, .ref gU, .ref gS, .int gbe, .int gwo, .long gta, .ref gn, .int glr, .int glc, .int gti, .int ggo, .ref gR, .int gch, .ref gD]))], [(gR, .inl (cy 3, gRn, .inr (.inr (.inr (.inr (yad gRd))))))], xg_rows gRd gRn (cy 1) gRk gRG]) := by
  unfold fX9_off_r at hR
  refine YM.ofI (cc := cX9_off) (maxL := 7) (ret := (some .int)) (by decide +kernel) rfl (Nat.le_of_ble_eq_true rfl) [(0, .ref g), (1, .int i1), (2, .int i2)] rfl rfl (fun p e s m args below meth c A H0 Q C hnm ret => ?_)
  refine xr_iload_n (n := 1) (j := 1) C dX9_off_0 rfl rfl ?_
  obtain ⟨r_3, hE_3, hR⟩ := yf_b hR
  have J_3 : X p l e (yR 1 0 0) s m args below meth c D A H0 7 Q [[(g, .inr (11, [.int gth, .ref gw, .ref gB, .ref gK, .ref gU, .ref gS, .int gbe, .int gwo, .long gta, .ref gn, .int glr, .int glc, .int gti, .int ggo, .ref gR, .int gch, .ref gD]))], [(gR, .inl (cy 3, gRn, .inr (.inr (.inr (.inr (yad gRd))))))], xg_rows gRd gRn (cy 1) gRk gRG] 0 0 [(0, .ref g), (1, .int i1), (2, .int i2)] 19 [.int r_3] := by
    refine xr_istore_n (n := 20) C [(3, .int r_3), (0, .ref g), (1, .int i1), (2, .int i2)] dX9_off_19 (by decide) rfl rfl ?_
    refine xr_iconst (n := 21) (v := 0) C dX9_off_20 rfl rfl ?_
    refine xr_istore (n := 23) C [(4, .int 0), (3, .int r_3), (0, .ref g), (1, .int i1), (2, .int i2)] dX9_off_21 (by decide) rfl rfl ?_
    refine xr_iconst (n := 24) (v := 0) C dX9_off_23 rfl rfl ?_
    refine xr_istore (n := 26) C [(5, .int 0), (4, .int 0), (3, .int r_3), (0, .ref g), (1, .int i1), (2, .int i2)] dX9_off_24 (by decide) rfl rfl ?_
    refine xr_lv (lv' := [(0, .ref g), (1, .int i1), (2, .int i2), (3, .int r_3), (4, .int 0), (5, .int 0)]) [3, 4, 5, 2, 1, 0] rfl ?_
    obtain ⟨b_4, hb_4, hR⟩ := yf_b hR
    have K_4 : X p l e (yR 1 0 0) s m args below meth c D A H0 7 Q [[(g, .inr (11, [.int gth, .ref gw, .ref gB, .ref gK, .ref gU, .ref gS, .int gbe, .int gwo, .long gta, .ref gn, .int glr, .int glc, .int gti, .int ggo, .ref gR, .int gch, .ref gD]))], [(gR, .inl (cy 3, gRn, .inr (.inr (.inr (.inr (yad gRd))))))], xg_rows gRd gRn (cy 1) gRk gRG] 0 0 [(4, .int b_4.1)] 86 [] := by
      refine xr_iload (n := 88) (j := 0) C dX9_off_86 rfl rfl ?_
      obtain rfl := Option.some.inj hR
      exact ret b_4.1 ⟨rfl, rfl⟩ (Nat.le_of_ble_eq_true rfl) (Nat.le_of_ble_eq_true rfl) dX9_off_88
    refine y_loop (P := fun s_4 => X p l e (yR 1 0 0) s m args below meth c D A H0 7 Q [[(g, .inr (11, [.int gth, .ref gw, .ref gB, .ref gK, .ref gU, .ref gS, .int gbe, .int gwo, .long gta, .ref gn, .int glr, .int glc, .int gti, .int ggo, .ref gR, .int gch, .ref gD]))], [(gR, .inl (cy 3, gRn, .inr (.inr (.inr (.inr (yad gRd))))))], xg_rows gRd gRn (cy 1) gRk gRG] 0 0 [(0, .ref g), (1, .int i1), (2, .int i2), (3, .int r_3), (4, .int s_4.1), (5, .int s_4.2)] 26 []) ?_ _ _ hb_4
    intro s_4 o_4 ho_4 hk_4 hx_4
    refine xr_iload (n := 28) (j := 5) C dX9_off_26 rfl rfl ?_
    refine xr_iload_n (n := 29) (j := 3) C dX9_off_28 rfl rfl ?_
    refine xr_icmp_ge (tgt := 86) (n := 32) C dX9_off_29 rfl rfl (fun c_5 => ?_) (fun c_5 => ?_)
    · replace ho_4 := yf_t c_5 ho_4
      refine xr_lv (lv' := [(4, .int s_4.1)]) [4] rfl ?_
      have e_6 := hx_4 _ (Option.some.inj ho_4).symm
      subst e_6
      exact K_4
    · replace ho_4 := yf_f c_5 ho_4
      refine xr_iload_n (n := 33) (j := 1) C dX9_off_32 rfl rfl ?_
      obtain ⟨r_12, hE_12, ho_4⟩ := yf_b ho_4
      have J_12 : X p l e (yR 1 0 0) s m args below meth c D A H0 7 Q [[(g, .inr (11, [.int gth, .ref gw, .ref gB, .ref gK, .ref gU, .ref gS, .int gbe, .int gwo, .long gta, .ref gn, .int glr, .int glc, .int gti, .int ggo, .ref gR, .int gch, .ref gD]))], [(gR, .inl (cy 3, gRn, .inr (.inr (.inr (.inr (yad gRd))))))], xg_rows gRd gRn (cy 1) gRk gRG] 0 0 [(0, .ref g), (1, .int i1), (2, .int i2), (3, .int r_3), (4, .int s_4.1), (5, .int s_4.2)] 57 [.int r_12] := by
        refine xr_istore (n := 59) C [(6, .int r_12), (0, .ref g), (1, .int i1), (2, .int i2), (3, .int r_3), (4, .int s_4.1), (5, .int s_4.2)] dX9_off_57 (by decide) rfl rfl ?_
        refine xr_iload (n := 61) (j := 5) C dX9_off_59 rfl rfl ?_
        refine xr_iload (n := 63) (j := 6) C dX9_off_61 rfl rfl ?_
        refine xr_iload_n (n := 64) (j := 4) C dX9_off_63 rfl rfl ?_
        refine xr_iconst (n := 65) (v := 1) C dX9_off_64 rfl rfl ?_
        refine xr_isub (n := 66) C dX9_off_65 rfl ?_
        obtain ⟨r_14, hE_14, ho_4⟩ := yf_b ho_4
        have J_14 : X p l e (yR 1 0 0) s m args below meth c D A H0 7 Q [[(g, .inr (11, [.int gth, .ref gw, .ref gB, .ref gK, .ref gU, .ref gS, .int gbe, .int gwo, .long gta, .ref gn, .int glr, .int glc, .int gti, .int ggo, .ref gR, .int gch, .ref gD]))], [(gR, .inl (cy 3, gRn, .inr (.inr (.inr (.inr (yad gRd))))))], xg_rows gRd gRn (cy 1) gRk gRG] 0 0 [(0, .ref g), (1, .int i1), (2, .int i2), (3, .int r_3), (5, .int s_4.2)] 77 [.int r_14, .int s_4.1] := by
          refine xr_iadd (n := 78) C dX9_off_77 rfl ?_
          refine xr_istore (n := 80) C [(4, .int (s_4.1 + r_14)), (0, .ref g), (1, .int i1), (2, .int i2), (3, .int r_3), (5, .int s_4.2)] dX9_off_78 (by decide) rfl rfl ?_
          refine xr_iinc (j := 5) (v := s_4.2 + 1) (n := 83) C [(5, .int (s_4.2 + 1)), (4, .int (s_4.1 + r_14)), (0, .ref g), (1, .int i1), (2, .int i2), (3, .int r_3)] dX9_off_80 rfl rfl (by decide) rfl rfl ?_
          refine xr_goto (tgt := 26) C dX9_off_83 rfl ?_
          refine xr_lv (lv' := [(0, .ref g), (1, .int i1), (2, .int i2), (3, .int r_3), (4, .int (s_4.1 + r_14)), (5, .int (s_4.2 + 1))]) [2, 3, 4, 5, 1, 0] rfl ?_
          exact hk_4 _ (Option.some.inj ho_4).symm
        refine xr_icmp_ne (tgt := 74) (n := 69) C dX9_off_66 rfl rfl (fun c_15 => ?_) (fun c_15 => ?_)
        · replace hE_14 := yf_f c_15 hE_14
          refine xr_iload (n := 76) (j := 0) C dX9_off_74 rfl rfl ?_
          refine xr_ineg (n := 77) C dX9_off_76 rfl ?_
          refine xr_lv (lv' := [(0, .ref g), (1, .int i1), (2, .int i2), (3, .int r_3), (5, .int s_4.2)]) [1, 2, 3, 4, 6] rfl ?_
          have e_16 := Option.some.inj hE_14
          subst e_16
          exact J_14
        · replace hE_14 := yf_t c_15 hE_14
          refine xr_iload (n := 71) (j := 0) C dX9_off_69 rfl rfl ?_
          refine xr_goto (tgt := 77) C dX9_off_71 rfl ?_
          refine xr_lv (lv' := [(0, .ref g), (1, .int i1), (2, .int i2), (3, .int r_3), (5, .int s_4.2)]) [1, 2, 3, 4, 6] rfl ?_
          have e_17 := Option.some.inj hE_14
          subst e_17
          exact J_14
      refine xr_if_eq (tgt := 48) (n := 36) C dX9_off_33 rfl rfl (fun c_18 => ?_) (fun c_18 => ?_)
      · replace hE_12 := yf_t c_18 hE_12
        refine xr_aload_n (n := 49) (j := 0) C dX9_off_48 rfl rfl ?_
        refine xr_get (n := 52) C 0 rfl rfl 14 (by decide) in_X9 u_1251 rfl (v := .ref gR) rfl dX9_off_49 rfl ?_
        refine xr_iload (n := 54) (j := 5) C dX9_off_52 rfl rfl ?_
        obtain ⟨g_19, hE_12⟩ := yf_g hE_12
        refine xr_aald (n := 55) C 1 0 rfl 3 rfl rfl g_19 rfl dX9_off_54 rfl ?_
        refine xr_iload_n (n := 56) (j := 2) C dX9_off_55 rfl rfl ?_
        obtain ⟨g_20, hE_12⟩ := yf_g hE_12
        refine xr_ialdg (n := 57) C 2 rfl s_4.2.toNatClampNeg (ylt g_19) g_20 dX9_off_56 rfl ?_
        have e_21 := Option.some.inj hE_12
        subst e_21
        exact J_12
      · replace hE_12 := yf_f c_18 hE_12
        refine xr_aload_n (n := 37) (j := 0) C dX9_off_36 rfl rfl ?_
        refine xr_get (n := 40) C 0 rfl rfl 14 (by decide) in_X9 u_1251 rfl (v := .ref gR) rfl dX9_off_37 rfl ?_
        refine xr_iload_n (n := 41) (j := 2) C dX9_off_40 rfl rfl ?_
        obtain ⟨g_22, hE_12⟩ := yf_g hE_12
        refine xr_aald (n := 42) C 1 0 rfl 3 rfl rfl g_22 rfl dX9_off_41 rfl ?_
        refine xr_iload (n := 44) (j := 5) C dX9_off_42 rfl rfl ?_
        obtain ⟨g_23, hE_12⟩ := yf_g hE_12
        refine xr_ialdg (n := 45) C 2 rfl i2.toNatClampNeg (ylt g_22) g_23 dX9_off_44 rfl ?_
        refine xr_goto (tgt := 57) C dX9_off_45 rfl ?_
        have e_24 := Option.some.inj hE_12
        subst e_24
        exact J_12
  refine xr_if_eq (tgt := 14) (n := 4) C dX9_off_1 rfl rfl (fun c_25 => ?_) (fun c_25 => ?_)
  · replace hE_3 := yf_t c_25 hE_3
    refine xr_aload_n (n := 15) (j := 0) C dX9_off_14 rfl rfl ?_
    refine xr_get (n := 18) C 0 rfl rfl 14 (by decide) in_X9 u_1251 rfl (v := .ref gR) rfl dX9_off_15 rfl ?_
    refine xr_alen (n := 19) C 1 0 rfl 3 rfl rfl dX9_off_18 rfl ?_
    have e_26 := Option.some.inj hE_3
    subst e_26
    exact J_3
  · replace hE_3 := yf_f c_25 hE_3
    refine xr_aload_n (n := 5) (j := 0) C dX9_off_4 rfl rfl ?_
    refine xr_get (n := 8) C 0 rfl rfl 14 (by decide) in_X9 u_1251 rfl (v := .ref gR) rfl dX9_off_5 rfl ?_
    refine xr_iconst (n := 9) (v := 0) C dX9_off_8 rfl rfl ?_
    obtain ⟨g_27, hE_3⟩ := yf_g hE_3
    refine xr_aald (n := 10) C 1 0 rfl 3 rfl rfl g_27 rfl dX9_off_9 rfl ?_
    refine xr_aleng (n := 11) C 2 1 rfl ((0 : Int32).toNatClampNeg) (ylt g_27) rfl dX9_off_10 rfl ?_
    refine xr_goto (tgt := 19) C dX9_off_11 rfl ?_
    have e_28 := Option.some.inj hE_3
    subst e_28
    exact J_3
theorem dX9_wrong_0 : decode cX9_wrong 0 = .ok (.iconst (-1), 1) := by decide +kernel
theorem dX9_wrong_1 : decode cX9_wrong 1 = .ok (.istore_n 2, 1) := by decide +kernel
theorem dX9_wrong_2 : decode cX9_wrong 2 = .ok (.iconst 0, 1) := by decide +kernel
theorem dX9_wrong_3 : decode cX9_wrong 3 = .ok (.istore_n 3, 1) := by decide +kernel
theorem dX9_wrong_4 : decode cX9_wrong 4 = .ok (.iload_n 3, 1) := by decide +kernel
theorem dX9_wrong_5 : decode cX9_wrong 5 = .ok (.iload_n 1, 1) := by decide +kernel
theorem dX9_wrong_6 : decode cX9_wrong 6 = .ok (.ifCond .eq 11, 3) := by decide +kernel
theorem dX9_wrong_9 : decode cX9_wrong 9 = .ok (.aload_n 0, 1) := by decide +kernel
theorem dX9_wrong_10 : decode cX9_wrong 10 = .ok (.getfield 38, 3) := by decide +kernel
theorem dX9_wrong_13 : decode cX9_wrong 13 = .ok (.arraylength, 1) := by decide +kernel
theorem dX9_wrong_14 : decode cX9_wrong 14 = .ok (.goto 10, 3) := by decide +kernel
theorem dX9_wrong_17 : decode cX9_wrong 17 = .ok (.aload_n 0, 1) := by decide +kernel
theorem dX9_wrong_18 : decode cX9_wrong 18 = .ok (.getfield 38, 3) := by decide +kernel
theorem dX9_wrong_21 : decode cX9_wrong 21 = .ok (.iconst 0, 1) := by decide +kernel
theorem dX9_wrong_22 : decode cX9_wrong 22 = .ok (.aaload, 1) := by decide +kernel
theorem dX9_wrong_23 : decode cX9_wrong 23 = .ok (.arraylength, 1) := by decide +kernel
theorem dX9_wrong_24 : decode cX9_wrong 24 = .ok (.if_icmp .ge 30, 3) := by decide +kernel
theorem dX9_wrong_27 : decode cX9_wrong 27 = .ok (.aload_n 0, 1) := by decide +kernel
theorem dX9_wrong_28 : decode cX9_wrong 28 = .ok (.iload_n 1, 1) := by decide +kernel
theorem dX9_wrong_29 : decode cX9_wrong 29 = .ok (.iload_n 3, 1) := by decide +kernel
theorem dX9_wrong_30 : decode cX9_wrong 30 = .ok (.invokevirtual 231, 3) := by decide +kernel
theorem dX9_wrong_33 : decode cX9_wrong 33 = .ok (.ifCond .eq 15, 3) := by decide +kernel
theorem dX9_wrong_36 : decode cX9_wrong 36 = .ok (.iload_n 2, 1) := by decide +kernel
theorem dX9_wrong_37 : decode cX9_wrong 37 = .ok (.iconst (-1), 1) := by decide +kernel
theorem dX9_wrong_38 : decode cX9_wrong 38 = .ok (.if_icmp .ne 7, 3) := by decide +kernel
theorem dX9_wrong_41 : decode cX9_wrong 41 = .ok (.iload_n 3, 1) := by decide +kernel
theorem dX9_wrong_42 : decode cX9_wrong 42 = .ok (.goto 5, 3) := by decide +kernel
theorem dX9_wrong_45 : decode cX9_wrong 45 = .ok (.bipush (-2), 2) := by decide +kernel
theorem dX9_wrong_47 : decode cX9_wrong 47 = .ok (.istore_n 2, 1) := by decide +kernel
theorem dX9_wrong_48 : decode cX9_wrong 48 = .ok (.iinc 3 1, 3) := by decide +kernel
theorem dX9_wrong_51 : decode cX9_wrong 51 = .ok (.goto (-47), 3) := by decide +kernel
theorem dX9_wrong_54 : decode cX9_wrong 54 = .ok (.iload_n 2, 1) := by decide +kernel
theorem dX9_wrong_55 : decode cX9_wrong 55 = .ok (.ireturn, 1) := by decide +kernel
def fX9_wrong_i (gRn : Nat) (gRk : Nat) (gRG : Nat → Nat → Int32) (i1 : Int32) : Option (Int32) := ((wl (S := Int32 × Int32) (B := Int32 × Int32) (fun s_1 => ((((if i1 = 0 then (if ¬ ((0 : Int32) < 0 ∨ gRn ≤ (0 : Int32).toNatClampNeg) then some (nI gRk) else none) else some (nI gRn)) : Option (Int32))).bind fun r_4 => (if r_4 ≤ s_1.2 then some (.inr (s_1.1, s_1.2)) else ((fX9_off_i gRn gRk gRG i1 s_1.2).bind fun x_7 => (if x_7 = 0 then some (.inl (s_1.1, s_1.2 + 1)) else (if s_1.1 = (-1) then some (.inl (s_1.2, s_1.2 + 1)) else some (.inl (-2, s_1.2 + 1)))))))) yFuel (-1, 0)).bind fun b_1 => some b_1.1)
abbrev hX9_wrong : Cond := .code yX9_wrong cX9_wrong 4 (some .int)
theorem mX9_wrong : yM yX9_wrong hX9_wrong 1 := ⟨u_1507, u_64, by decide +kernel, by decide +kernel, by decide +kernel⟩
set_option maxHeartbeats 4000000 in
set_option maxRecDepth 100000 in
theorem kX9_wrong_i (l : Launch) (D : va_G) (cy : Nat → ClassId) (g : Nat) (gth : Int32) (gw : Nat) (gB : Nat) (gK : Nat) (gU : Nat) (gS : Nat) (gbe : Int32) (gwo : Int32) (gta : Int64) (glr : Int32) (glc : Int32) (gti : Int32) (ggo : Int32) (gR : Nat) (gch : Int32) (gD : Nat) (gRd : Nat → Nat) (gRn : Nat) (gRk : Nat) (gRG : Nat → Nat → Int32) (i1 : Int32) {res : Int32} (hR : fX9_wrong_i gRn gRk gRG i1 = some res) : YM l D cy yX9_wrong hX9_wrong 2 0 0 [.ref g, .int i1] [[(g, .inr (11, [.int gth, .ref gw, .ref gB, .ref gK, .ref gU, .ref gS, .int gbe, .int gwo, .long gta, .null, .int glr, .int glc, .int gti, .int ggo, .ref gR, .int gch, .ref gD]))], [(gR, .inl (cy 3, gRn, .inr (.inr (.inr (.inr (yad gRd))))))], xg_rows gRd gRn (cy 1) gRk gRG] (fun v u => v = some (.int res) ∧ u = [[(g, .inr (11, [.int gth, .ref gw, .ref gB, .ref gK, .ref gU, .ref gS, .int gbe, .int gwo, .long gta, .null, .int glr, .int glc, .int gti, .int ggo, .ref gR, .int gch, .ref gD]))], [(gR, .inl (cy 3, gRn, .inr (.inr (.inr (.inr (yad gRd))))))], xg_rows gRd gRn (cy 1) gRk gRG]) := by
  unfold fX9_wrong_i at hR
  refine YM.ofI (cc := cX9_wrong) (maxL := 4) (ret := (some .int)) (by decide +kernel) rfl (Nat.le_of_ble_eq_true rfl) [(0, .ref g), (1, .int i1)] rfl rfl (fun p e s m args below meth c A H0 Q C hnm ret => ?_)
  refine xr_iconst (n := 1) (v := -1) C dX9_wrong_0 rfl rfl ?_
  refine xr_istore_n (n := 2) C [(2, .int (-1)), (0, .ref g), (1, .int i1)] dX9_wrong_1 (by decide) rfl rfl ?_
  refine xr_iconst (n := 3) (v := 0) C dX9_wrong_2 rfl rfl ?_
  refine xr_istore_n (n := 4) C [(3, .int 0), (2, .int (-1)), (0, .ref g), (1, .int i1)] dX9_wrong_3 (by decide) rfl rfl ?_
  refine xr_lv (lv' := [(0, .ref g), (1, .int i1), (2, .int (-1)), (3, .int 0)]) [2, 3, 1, 0] rfl ?_
  obtain ⟨b_1, hb_1, hR⟩ := yf_b hR
  have K_1 : X p l e (yR 2 0 0) s m args below meth c D A H0 4 Q [[(g, .inr (11, [.int gth, .ref gw, .ref gB, .ref gK, .ref gU, .ref gS, .int gbe, .int gwo, .long gta, .null, .int glr, .int glc, .int gti, .int ggo, .ref gR, .int gch, .ref gD]))], [(gR, .inl (cy 3, gRn, .inr (.inr (.inr (.inr (yad gRd))))))], xg_rows gRd gRn (cy 1) gRk gRG] 0 0 [(2, .int b_1.1)] 54 [] := by
    refine xr_iload_n (n := 55) (j := 0) C dX9_wrong_54 rfl rfl ?_
    obtain rfl := Option.some.inj hR
    exact ret b_1.1 ⟨rfl, rfl⟩ (Nat.le_of_ble_eq_true rfl) (Nat.le_of_ble_eq_true rfl) dX9_wrong_55
  refine y_loop (P := fun s_1 => X p l e (yR 2 0 0) s m args below meth c D A H0 4 Q [[(g, .inr (11, [.int gth, .ref gw, .ref gB, .ref gK, .ref gU, .ref gS, .int gbe, .int gwo, .long gta, .null, .int glr, .int glc, .int gti, .int ggo, .ref gR, .int gch, .ref gD]))], [(gR, .inl (cy 3, gRn, .inr (.inr (.inr (.inr (yad gRd))))))], xg_rows gRd gRn (cy 1) gRk gRG] 0 0 [(0, .ref g), (1, .int i1), (2, .int s_1.1), (3, .int s_1.2)] 4 []) ?_ _ _ hb_1
  intro s_1 o_1 ho_1 hk_1 hx_1
  refine xr_iload_n (n := 5) (j := 3) C dX9_wrong_4 rfl rfl ?_
  refine xr_iload_n (n := 6) (j := 1) C dX9_wrong_5 rfl rfl ?_
  obtain ⟨r_4, hE_4, ho_1⟩ := yf_b ho_1
  have J_4 : X p l e (yR 2 0 0) s m args below meth c D A H0 4 Q [[(g, .inr (11, [.int gth, .ref gw, .ref gB, .ref gK, .ref gU, .ref gS, .int gbe, .int gwo, .long gta, .null, .int glr, .int glc, .int gti, .int ggo, .ref gR, .int gch, .ref gD]))], [(gR, .inl (cy 3, gRn, .inr (.inr (.inr (.inr (yad gRd))))))], xg_rows gRd gRn (cy 1) gRk gRG] 0 0 [(0, .ref g), (1, .int i1), (2, .int s_1.1), (3, .int s_1.2)] 24 [.int r_4, .int s_1.2] := by
    refine xr_icmp_ge (tgt := 54) (n := 27) C dX9_wrong_24 rfl rfl (fun c_5 => ?_) (fun c_5 => ?_)
    · replace ho_1 := yf_t c_5 ho_1
      refine xr_lv (lv' := [(2, .int s_1.1)]) [2] rfl ?_
      have e_6 := hx_1 _ (Option.some.inj ho_1).symm
      subst e_6
      exact K_1
    · replace ho_1 := yf_f c_5 ho_1
      refine xr_aload_n (n := 28) (j := 0) C dX9_wrong_27 rfl rfl ?_
      refine xr_iload_n (n := 29) (j := 1) C dX9_wrong_28 rfl rfl ?_
      refine xr_iload_n (n := 30) (j := 3) C dX9_wrong_29 rfl rfl ?_
      obtain ⟨x_7, hx_7, ho_1⟩ := yf_b ho_1
      refine xr_callVp (n := 33) (As := [.int i1, .int s_1.2]) (rest := []) C (kX9_off_i l D cy (g := g) (gth := gth) (gw := gw) (gB := gB) (gK := gK) (gU := gU) (gS := gS) (gbe := gbe) (gwo := gwo) (gta := gta) (glr := glr) (glc := glc) (gti := gti) (ggo := ggo) (gR := gR) (gch := gch) (gD := gD) (gRd := gRd) (gRn := gRn) (gRk := gRk) (gRG := gRG) (i1 := i1) (i2 := s_1.2) hx_7) mX9_off u_1500 u_1502 u_47 0 rfl rfl 3 [0, 1, 2] [] rfl (by decide +kernel) rfl rfl rfl rfl (Nat.le_of_ble_eq_true rfl) (Nat.le_of_ble_eq_true rfl) (Nat.le_of_ble_eq_true rfl) (Nat.le_of_ble_eq_true rfl) (Nat.le_of_ble_eq_true rfl) dX9_wrong_30 rfl (fun _ _ hp => hp.2) (fun v_8 hp_10 => ?_)
      obtain ⟨rfl, -⟩ := hp_10
      refine xr_st (st' := [.int x_7]) rfl ?_
      refine xr_if_eq (tgt := 48) (n := 36) C dX9_wrong_33 rfl rfl (fun c_11 => ?_) (fun c_11 => ?_)
      · replace ho_1 := yf_t c_11 ho_1
        refine xr_iinc (j := 3) (v := s_1.2 + 1) (n := 51) C [(3, .int (s_1.2 + 1)), (0, .ref g), (1, .int i1), (2, .int s_1.1)] dX9_wrong_48 rfl rfl (by decide) rfl rfl ?_
        refine xr_goto (tgt := 4) C dX9_wrong_51 rfl ?_
        refine xr_lv (lv' := [(0, .ref g), (1, .int i1), (2, .int s_1.1), (3, .int (s_1.2 + 1))]) [1, 2, 3, 0] rfl ?_
        exact hk_1 _ (Option.some.inj ho_1).symm
      · replace ho_1 := yf_f c_11 ho_1
        refine xr_iload_n (n := 37) (j := 2) C dX9_wrong_36 rfl rfl ?_
        refine xr_iconst (n := 38) (v := -1) C dX9_wrong_37 rfl rfl ?_
        refine xr_icmp_ne (tgt := 45) (n := 41) C dX9_wrong_38 rfl rfl (fun c_12 => ?_) (fun c_12 => ?_)
        · replace ho_1 := yf_f c_12 ho_1
          refine xr_bipush (n := 47) (v := -2) C dX9_wrong_45 rfl rfl ?_
          refine xr_istore_n (n := 48) C [(2, .int (-2)), (0, .ref g), (1, .int i1), (3, .int s_1.2)] dX9_wrong_47 (by decide) rfl rfl ?_
          refine xr_iinc (j := 3) (v := s_1.2 + 1) (n := 51) C [(3, .int (s_1.2 + 1)), (2, .int (-2)), (0, .ref g), (1, .int i1)] dX9_wrong_48 rfl rfl (by decide) rfl rfl ?_
          refine xr_goto (tgt := 4) C dX9_wrong_51 rfl ?_
          refine xr_lv (lv' := [(0, .ref g), (1, .int i1), (2, .int (-2)), (3, .int (s_1.2 + 1))]) [2, 3, 1, 0] rfl ?_
          exact hk_1 _ (Option.some.inj ho_1).symm
        · replace ho_1 := yf_t c_12 ho_1
          refine xr_iload_n (n := 42) (j := 3) C dX9_wrong_41 rfl rfl ?_
          refine xr_goto (tgt := 47) C dX9_wrong_42 rfl ?_
          refine xr_istore_n (n := 48) C [(2, .int s_1.2), (0, .ref g), (1, .int i1), (3, .int s_1.2)] dX9_wrong_47 (by decide) rfl rfl ?_
          refine xr_iinc (j := 3) (v := s_1.2 + 1) (n := 51) C [(3, .int (s_1.2 + 1)), (2, .int s_1.2), (0, .ref g), (1, .int i1)] dX9_wrong_48 rfl rfl (by decide) rfl rfl ?_
          refine xr_goto (tgt := 4) C dX9_wrong_51 rfl ?_
          refine xr_lv (lv' := [(0, .ref g), (1, .int i1), (2, .int s_1.2), (3, .int (s_1.2 + 1))]) [2, 3, 1, 0] rfl ?_
          exact hk_1 _ (Option.some.inj ho_1).symm
  refine xr_if_eq (tgt := 17) (n := 9) C dX9_wrong_6 rfl rfl (fun c_13 => ?_) (fun c_13 => ?_)
  · replace hE_4 := yf_t c_13 hE_4
    refine xr_aload_n (n := 18) (j := 0) C dX9_wrong_17 rfl rfl ?_
    refine xr_get (n := 21) C 0 rfl rfl 14 (by decide) in_X9 u_1251 rfl (v := .ref gR) rfl dX9_wrong_18 rfl ?_
    refine xr_iconst (n := 22) (v := 0) C dX9_wrong_21 rfl rfl ?_
    obtain ⟨g_14, hE_4⟩ := yf_g hE_4
    refine xr_aald (n := 23) C 1 0 rfl 3 rfl rfl g_14 rfl dX9_wrong_22 rfl ?_
    refine xr_aleng (n := 24) C 2 1 rfl ((0 : Int32).toNatClampNeg) (ylt g_14) rfl dX9_wrong_23 rfl ?_
    have e_15 := Option.some.inj hE_4
    subst e_15
    exact J_4
  · replace hE_4 := yf_f c_13 hE_4
    refine xr_aload_n (n := 10) (j := 0) C dX9_wrong_9 rfl rfl ?_
    refine xr_get (n := 13) C 0 rfl rfl 14 (by decide) in_X9 u_1251 rfl (v := .ref gR) rfl dX9_wrong_10 rfl ?_
    refine xr_alen (n := 14) C 1 0 rfl 3 rfl rfl dX9_wrong_13 rfl ?_
    refine xr_goto (tgt := 24) C dX9_wrong_14 rfl ?_
    have e_16 := Option.some.inj hE_4
    subst e_16
    exact J_4
def fX9_wrong_r (gRn : Nat) (gRk : Nat) (gRG : Nat → Nat → Int32) (i1 : Int32) : Option (Int32) := ((wl (S := Int32 × Int32) (B := Int32 × Int32) (fun s_1 => ((((if i1 = 0 then (if ¬ ((0 : Int32) < 0 ∨ gRn ≤ (0 : Int32).toNatClampNeg) then some (nI gRk) else none) else some (nI gRn)) : Option (Int32))).bind fun r_4 => (if r_4 ≤ s_1.2 then some (.inr (s_1.1, s_1.2)) else ((fX9_off_r gRn gRk gRG i1 s_1.2).bind fun x_7 => (if x_7 = 0 then some (.inl (s_1.1, s_1.2 + 1)) else (if s_1.1 = (-1) then some (.inl (s_1.2, s_1.2 + 1)) else some (.inl (-2, s_1.2 + 1)))))))) yFuel (-1, 0)).bind fun b_1 => some b_1.1)
set_option maxHeartbeats 4000000 in
set_option maxRecDepth 100000 in
theorem kX9_wrong_r (l : Launch) (D : va_G) (cy : Nat → ClassId) (g : Nat) (gth : Int32) (gw : Nat) (gB : Nat) (gK : Nat) (gU : Nat) (gS : Nat) (gbe : Int32) (gwo : Int32) (gta : Int64) (gn : Nat) (glr : Int32) (glc : Int32) (gti : Int32) (ggo : Int32) (gR : Nat) (gch : Int32) (gD : Nat) (gRd : Nat → Nat) (gRn : Nat) (gRk : Nat) (gRG : Nat → Nat → Int32) (i1 : Int32) {res : Int32} (hR : fX9_wrong_r gRn gRk gRG i1 = some res) : YM l D cy yX9_wrong hX9_wrong 2 0 0 [.ref g, .int i1] [[(g, .inr (11, [.int gth, .ref gw, .ref gB, .ref gK, .ref gU, .ref gS, .int gbe, .int gwo, .long gta, .ref gn, .int glr, .int glc, .int gti, .int ggo, .ref gR, .int gch, .ref gD]))], [(gR, .inl (cy 3, gRn, .inr (.inr (.inr (.inr (yad gRd))))))], xg_rows gRd gRn (cy 1) gRk gRG] (fun v u => v = some (.int res) ∧ u = [[(g, .inr (11, [.int gth, .ref gw, .ref gB, .ref gK, .ref gU, .ref gS, .int gbe, .int gwo, .long gta, .ref gn, .int glr, .int glc, .int gti, .int ggo, .ref gR, .int gch, .ref gD]))], [(gR, .inl (cy 3, gRn, .inr (.inr (.inr (.inr (yad gRd))))))], xg_rows gRd gRn (cy 1) gRk gRG]) := by
  unfold fX9_wrong_r at hR
  refine YM.ofI (cc := cX9_wrong) (maxL := 4) (ret := (some .int)) (by decide +kernel) rfl (Nat.le_of_ble_eq_true rfl) [(0, .ref g), (1, .int i1)] rfl rfl (fun p e s m args below meth c A H0 Q C hnm ret => ?_)
  refine xr_iconst (n := 1) (v := -1) C dX9_wrong_0 rfl rfl ?_
  refine xr_istore_n (n := 2) C [(2, .int (-1)), (0, .ref g), (1, .int i1)] dX9_wrong_1 (by decide) rfl rfl ?_
  refine xr_iconst (n := 3) (v := 0) C dX9_wrong_2 rfl rfl ?_
  refine xr_istore_n (n := 4) C [(3, .int 0), (2, .int (-1)), (0, .ref g), (1, .int i1)] dX9_wrong_3 (by decide) rfl rfl ?_
  refine xr_lv (lv' := [(0, .ref g), (1, .int i1), (2, .int (-1)), (3, .int 0)]) [2, 3, 1, 0] rfl ?_
  obtain ⟨b_1, hb_1, hR⟩ := yf_b hR
  have K_1 : X p l e (yR 2 0 0) s m args below meth c D A H0 4 Q [[(g, .inr (11, [.int gth, .ref gw, .ref gB, .ref gK, .ref gU, .ref gS, .int gbe, .int gwo, .long gta, .ref gn, .int glr, .int glc, .int gti, .int ggo, .ref gR, .int gch, .ref gD]))], [(gR, .inl (cy 3, gRn, .inr (.inr (.inr (.inr (yad gRd))))))], xg_rows gRd gRn (cy 1) gRk gRG] 0 0 [(2, .int b_1.1)] 54 [] := by
    refine xr_iload_n (n := 55) (j := 0) C dX9_wrong_54 rfl rfl ?_
    obtain rfl := Option.some.inj hR
    exact ret b_1.1 ⟨rfl, rfl⟩ (Nat.le_of_ble_eq_true rfl) (Nat.le_of_ble_eq_true rfl) dX9_wrong_55
  refine y_loop (P := fun s_1 => X p l e (yR 2 0 0) s m args below meth c D A H0 4 Q [[(g, .inr (11, [.int gth, .ref gw, .ref gB, .ref gK, .ref gU, .ref gS, .int gbe, .int gwo, .long gta, .ref gn, .int glr, .int glc, .int gti, .int ggo, .ref gR, .int gch, .ref gD]))], [(gR, .inl (cy 3, gRn, .inr (.inr (.inr (.inr (yad gRd))))))], xg_rows gRd gRn (cy 1) gRk gRG] 0 0 [(0, .ref g), (1, .int i1), (2, .int s_1.1), (3, .int s_1.2)] 4 []) ?_ _ _ hb_1
  intro s_1 o_1 ho_1 hk_1 hx_1
  refine xr_iload_n (n := 5) (j := 3) C dX9_wrong_4 rfl rfl ?_
  refine xr_iload_n (n := 6) (j := 1) C dX9_wrong_5 rfl rfl ?_
  obtain ⟨r_4, hE_4, ho_1⟩ := yf_b ho_1
  have J_4 : X p l e (yR 2 0 0) s m args below meth c D A H0 4 Q [[(g, .inr (11, [.int gth, .ref gw, .ref gB, .ref gK, .ref gU, .ref gS, .int gbe, .int gwo, .long gta, .ref gn, .int glr, .int glc, .int gti, .int ggo, .ref gR, .int gch, .ref gD]))], [(gR, .inl (cy 3, gRn, .inr (.inr (.inr (.inr (yad gRd))))))], xg_rows gRd gRn (cy 1) gRk gRG] 0 0 [(0, .ref g), (1, .int i1), (2, .int s_1.1), (3, .int s_1.2)] 24 [.int r_4, .int s_1.2] := by
    refine xr_icmp_ge (tgt := 54) (n := 27) C dX9_wrong_24 rfl rfl (fun c_5 => ?_) (fun c_5 => ?_)
    · replace ho_1 := yf_t c_5 ho_1
      refine xr_lv (lv' := [(2, .int s_1.1)]) [2] rfl ?_
      have e_6 := hx_1 _ (Option.some.inj ho_1).symm
      subst e_6
      exact K_1
    · replace ho_1 := yf_f c_5 ho_1
      refine xr_aload_n (n := 28) (j := 0) C dX9_wrong_27 rfl rfl ?_
      refine xr_iload_n (n := 29) (j := 1) C dX9_wrong_28 rfl rfl ?_
      refine xr_iload_n (n := 30) (j := 3) C dX9_wrong_29 rfl rfl ?_
      obtain ⟨x_7, hx_7, ho_1⟩ := yf_b ho_1
      refine xr_callVp (n := 33) (As := [.int i1, .int s_1.2]) (rest := []) C (kX9_off_r l D cy (g := g) (gth := gth) (gw := gw) (gB := gB) (gK := gK) (gU := gU) (gS := gS) (gbe := gbe) (gwo := gwo) (gta := gta) (gn := gn) (glr := glr) (glc := glc) (gti := gti) (ggo := ggo) (gR := gR) (gch := gch) (gD := gD) (gRd := gRd) (gRn := gRn) (gRk := gRk) (gRG := gRG) (i1 := i1) (i2 := s_1.2) hx_7) mX9_off u_1500 u_1502 u_47 0 rfl rfl 3 [0, 1, 2] [] rfl (by decide +kernel) rfl rfl rfl rfl (Nat.le_of_ble_eq_true rfl) (Nat.le_of_ble_eq_true rfl) (Nat.le_of_ble_eq_true rfl) (Nat.le_of_ble_eq_true rfl) (Nat.le_of_ble_eq_true rfl) dX9_wrong_30 rfl (fun _ _ hp => hp.2) (fun v_8 hp_10 => ?_)
      obtain ⟨rfl, -⟩ := hp_10
      refine xr_st (st' := [.int x_7]) rfl ?_
      refine xr_if_eq (tgt := 48) (n := 36) C dX9_wrong_33 rfl rfl (fun c_11 => ?_) (fun c_11 => ?_)
      · replace ho_1 := yf_t c_11 ho_1
        refine xr_iinc (j := 3) (v := s_1.2 + 1) (n := 51) C [(3, .int (s_1.2 + 1)), (0, .ref g), (1, .int i1), (2, .int s_1.1)] dX9_wrong_48 rfl rfl (by decide) rfl rfl ?_
        refine xr_goto (tgt := 4) C dX9_wrong_51 rfl ?_
        refine xr_lv (lv' := [(0, .ref g), (1, .int i1), (2, .int s_1.1), (3, .int (s_1.2 + 1))]) [1, 2, 3, 0] rfl ?_
        exact hk_1 _ (Option.some.inj ho_1).symm
      · replace ho_1 := yf_f c_11 ho_1
        refine xr_iload_n (n := 37) (j := 2) C dX9_wrong_36 rfl rfl ?_
        refine xr_iconst (n := 38) (v := -1) C dX9_wrong_37 rfl rfl ?_
        refine xr_icmp_ne (tgt := 45) (n := 41) C dX9_wrong_38 rfl rfl (fun c_12 => ?_) (fun c_12 => ?_)
        · replace ho_1 := yf_f c_12 ho_1
          refine xr_bipush (n := 47) (v := -2) C dX9_wrong_45 rfl rfl ?_
          refine xr_istore_n (n := 48) C [(2, .int (-2)), (0, .ref g), (1, .int i1), (3, .int s_1.2)] dX9_wrong_47 (by decide) rfl rfl ?_
          refine xr_iinc (j := 3) (v := s_1.2 + 1) (n := 51) C [(3, .int (s_1.2 + 1)), (2, .int (-2)), (0, .ref g), (1, .int i1)] dX9_wrong_48 rfl rfl (by decide) rfl rfl ?_
          refine xr_goto (tgt := 4) C dX9_wrong_51 rfl ?_
          refine xr_lv (lv' := [(0, .ref g), (1, .int i1), (2, .int (-2)), (3, .int (s_1.2 + 1))]) [2, 3, 1, 0] rfl ?_
          exact hk_1 _ (Option.some.inj ho_1).symm
        · replace ho_1 := yf_t c_12 ho_1
          refine xr_iload_n (n := 42) (j := 3) C dX9_wrong_41 rfl rfl ?_
          refine xr_goto (tgt := 47) C dX9_wrong_42 rfl ?_
          refine xr_istore_n (n := 48) C [(2, .int s_1.2), (0, .ref g), (1, .int i1), (3, .int s_1.2)] dX9_wrong_47 (by decide) rfl rfl ?_
          refine xr_iinc (j := 3) (v := s_1.2 + 1) (n := 51) C [(3, .int (s_1.2 + 1)), (2, .int s_1.2), (0, .ref g), (1, .int i1)] dX9_wrong_48 rfl rfl (by decide) rfl rfl ?_
          refine xr_goto (tgt := 4) C dX9_wrong_51 rfl ?_
          refine xr_lv (lv' := [(0, .ref g), (1, .int i1), (2, .int s_1.2), (3, .int (s_1.2 + 1))]) [2, 3, 1, 0] rfl ?_
          exact hk_1 _ (Option.some.inj ho_1).symm
  refine xr_if_eq (tgt := 17) (n := 9) C dX9_wrong_6 rfl rfl (fun c_13 => ?_) (fun c_13 => ?_)
  · replace hE_4 := yf_t c_13 hE_4
    refine xr_aload_n (n := 18) (j := 0) C dX9_wrong_17 rfl rfl ?_
    refine xr_get (n := 21) C 0 rfl rfl 14 (by decide) in_X9 u_1251 rfl (v := .ref gR) rfl dX9_wrong_18 rfl ?_
    refine xr_iconst (n := 22) (v := 0) C dX9_wrong_21 rfl rfl ?_
    obtain ⟨g_14, hE_4⟩ := yf_g hE_4
    refine xr_aald (n := 23) C 1 0 rfl 3 rfl rfl g_14 rfl dX9_wrong_22 rfl ?_
    refine xr_aleng (n := 24) C 2 1 rfl ((0 : Int32).toNatClampNeg) (ylt g_14) rfl dX9_wrong_23 rfl ?_
    have e_15 := Option.some.inj hE_4
    subst e_15
    exact J_4
  · replace hE_4 := yf_f c_13 hE_4
    refine xr_aload_n (n := 10) (j := 0) C dX9_wrong_9 rfl rfl ?_
    refine xr_get (n := 13) C 0 rfl rfl 14 (by decide) in_X9 u_1251 rfl (v := .ref gR) rfl dX9_wrong_10 rfl ?_
    refine xr_alen (n := 14) C 1 0 rfl 3 rfl rfl dX9_wrong_13 rfl ?_
    refine xr_goto (tgt := 24) C dX9_wrong_14 rfl ?_
    have e_16 := Option.some.inj hE_4
    subst e_16
    exact J_4
theorem dX9_severalOr_0 : decode cX9_severalOr 0 = .ok (.iconst 0, 1) := by decide +kernel
theorem dX9_severalOr_1 : decode cX9_severalOr 1 = .ok (.istore_n 2, 1) := by decide +kernel
theorem dX9_severalOr_2 : decode cX9_severalOr 2 = .ok (.iconst 0, 1) := by decide +kernel
theorem dX9_severalOr_3 : decode cX9_severalOr 3 = .ok (.istore_n 3, 1) := by decide +kernel
theorem dX9_severalOr_4 : decode cX9_severalOr 4 = .ok (.iload_n 3, 1) := by decide +kernel
theorem dX9_severalOr_5 : decode cX9_severalOr 5 = .ok (.iload_n 1, 1) := by decide +kernel
theorem dX9_severalOr_6 : decode cX9_severalOr 6 = .ok (.ifCond .eq 11, 3) := by decide +kernel
theorem dX9_severalOr_9 : decode cX9_severalOr 9 = .ok (.aload_n 0, 1) := by decide +kernel
theorem dX9_severalOr_10 : decode cX9_severalOr 10 = .ok (.getfield 38, 3) := by decide +kernel
theorem dX9_severalOr_13 : decode cX9_severalOr 13 = .ok (.arraylength, 1) := by decide +kernel
theorem dX9_severalOr_14 : decode cX9_severalOr 14 = .ok (.goto 10, 3) := by decide +kernel
theorem dX9_severalOr_17 : decode cX9_severalOr 17 = .ok (.aload_n 0, 1) := by decide +kernel
theorem dX9_severalOr_18 : decode cX9_severalOr 18 = .ok (.getfield 38, 3) := by decide +kernel
theorem dX9_severalOr_21 : decode cX9_severalOr 21 = .ok (.iconst 0, 1) := by decide +kernel
theorem dX9_severalOr_22 : decode cX9_severalOr 22 = .ok (.aaload, 1) := by decide +kernel
theorem dX9_severalOr_23 : decode cX9_severalOr 23 = .ok (.arraylength, 1) := by decide +kernel
theorem dX9_severalOr_24 : decode cX9_severalOr 24 = .ok (.if_icmp .ge 29, 3) := by decide +kernel
theorem dX9_severalOr_27 : decode cX9_severalOr 27 = .ok (.iload_n 2, 1) := by decide +kernel
theorem dX9_severalOr_28 : decode cX9_severalOr 28 = .ok (.aload_n 0, 1) := by decide +kernel
theorem dX9_severalOr_29 : decode cX9_severalOr 29 = .ok (.iload_n 1, 1) := by decide +kernel
theorem dX9_severalOr_30 : decode cX9_severalOr 30 = .ok (.iload_n 3, 1) := by decide +kernel
theorem dX9_severalOr_31 : decode cX9_severalOr 31 = .ok (.invokevirtual 231, 3) := by decide +kernel
theorem dX9_severalOr_34 : decode cX9_severalOr 34 = .ok (.ifCond .eq 7, 3) := by decide +kernel
theorem dX9_severalOr_37 : decode cX9_severalOr 37 = .ok (.iconst 1, 1) := by decide +kernel
theorem dX9_severalOr_38 : decode cX9_severalOr 38 = .ok (.goto 4, 3) := by decide +kernel
theorem dX9_severalOr_41 : decode cX9_severalOr 41 = .ok (.iconst 0, 1) := by decide +kernel
theorem dX9_severalOr_42 : decode cX9_severalOr 42 = .ok (.invokestatic 71, 3) := by decide +kernel
theorem dX9_severalOr_45 : decode cX9_severalOr 45 = .ok (.iadd, 1) := by decide +kernel
theorem dX9_severalOr_46 : decode cX9_severalOr 46 = .ok (.istore_n 2, 1) := by decide +kernel
theorem dX9_severalOr_47 : decode cX9_severalOr 47 = .ok (.iinc 3 1, 3) := by decide +kernel
theorem dX9_severalOr_50 : decode cX9_severalOr 50 = .ok (.goto (-46), 3) := by decide +kernel
theorem dX9_severalOr_53 : decode cX9_severalOr 53 = .ok (.iload_n 2, 1) := by decide +kernel
theorem dX9_severalOr_54 : decode cX9_severalOr 54 = .ok (.iconst 1, 1) := by decide +kernel
theorem dX9_severalOr_55 : decode cX9_severalOr 55 = .ok (.if_icmp .le 8, 3) := by decide +kernel
theorem dX9_severalOr_58 : decode cX9_severalOr 58 = .ok (.bipush (-2), 2) := by decide +kernel
theorem dX9_severalOr_60 : decode cX9_severalOr 60 = .ok (.goto 8, 3) := by decide +kernel
theorem dX9_severalOr_63 : decode cX9_severalOr 63 = .ok (.aload_n 0, 1) := by decide +kernel
theorem dX9_severalOr_64 : decode cX9_severalOr 64 = .ok (.iload_n 1, 1) := by decide +kernel
theorem dX9_severalOr_65 : decode cX9_severalOr 65 = .ok (.invokevirtual 238, 3) := by decide +kernel
theorem dX9_severalOr_68 : decode cX9_severalOr 68 = .ok (.ireturn, 1) := by decide +kernel
def fX9_severalOr_i (gRn : Nat) (gRk : Nat) (gRG : Nat → Nat → Int32) (i1 : Int32) : Option (Int32) := ((wl (S := Int32 × Int32) (B := Int32 × Int32) (fun s_1 => ((((if i1 = 0 then (if ¬ ((0 : Int32) < 0 ∨ gRn ≤ (0 : Int32).toNatClampNeg) then some (nI gRk) else none) else some (nI gRn)) : Option (Int32))).bind fun r_9 => (if r_9 ≤ s_1.2 then some (.inr (s_1.1, s_1.2)) else ((fX9_off_i gRn gRk gRG i1 s_1.2).bind fun x_12 => ((((if x_12 = 0 then some 0 else some 1) : Option (Int32))).bind fun r_17 => ((fX9_one r_17).bind fun x_18 => some (.inl (s_1.1 + x_18, s_1.2 + 1)))))))) yFuel (0, 0)).bind fun b_1 => (if b_1.1 ≤ 1 then ((fX9_wrong_i gRn gRk gRG i1).bind fun x_3 => some x_3) else some (-2)))
abbrev hX9_severalOr : Cond := .code yX9_severalOr cX9_severalOr 4 (some .int)
theorem mX9_severalOr : yM yX9_severalOr hX9_severalOr 1 := ⟨u_1499, u_64, by decide +kernel, by decide +kernel, by decide +kernel⟩
set_option maxHeartbeats 4000000 in
set_option maxRecDepth 100000 in
theorem kX9_severalOr_i (l : Launch) (D : va_G) (cy : Nat → ClassId) (g : Nat) (gth : Int32) (gw : Nat) (gB : Nat) (gK : Nat) (gU : Nat) (gS : Nat) (gbe : Int32) (gwo : Int32) (gta : Int64) (glr : Int32) (glc : Int32) (gti : Int32) (ggo : Int32) (gR : Nat) (gch : Int32) (gD : Nat) (gRd : Nat → Nat) (gRn : Nat) (gRk : Nat) (gRG : Nat → Nat → Int32) (i1 : Int32) {res : Int32} (hR : fX9_severalOr_i gRn gRk gRG i1 = some res) : YM l D cy yX9_severalOr hX9_severalOr 3 0 0 [.ref g, .int i1] [[(g, .inr (11, [.int gth, .ref gw, .ref gB, .ref gK, .ref gU, .ref gS, .int gbe, .int gwo, .long gta, .null, .int glr, .int glc, .int gti, .int ggo, .ref gR, .int gch, .ref gD]))], [(gR, .inl (cy 3, gRn, .inr (.inr (.inr (.inr (yad gRd))))))], xg_rows gRd gRn (cy 1) gRk gRG] (fun v u => v = some (.int res) ∧ u = [[(g, .inr (11, [.int gth, .ref gw, .ref gB, .ref gK, .ref gU, .ref gS, .int gbe, .int gwo, .long gta, .null, .int glr, .int glc, .int gti, .int ggo, .ref gR, .int gch, .ref gD]))], [(gR, .inl (cy 3, gRn, .inr (.inr (.inr (.inr (yad gRd))))))], xg_rows gRd gRn (cy 1) gRk gRG]) := by
  unfold fX9_severalOr_i at hR
  refine YM.ofI (cc := cX9_severalOr) (maxL := 4) (ret := (some .int)) (by decide +kernel) rfl (Nat.le_of_ble_eq_true rfl) [(0, .ref g), (1, .int i1)] rfl rfl (fun p e s m args below meth c A H0 Q C hnm ret => ?_)
  refine xr_iconst (n := 1) (v := 0) C dX9_severalOr_0 rfl rfl ?_
  refine xr_istore_n (n := 2) C [(2, .int 0), (0, .ref g), (1, .int i1)] dX9_severalOr_1 (by decide) rfl rfl ?_
  refine xr_iconst (n := 3) (v := 0) C dX9_severalOr_2 rfl rfl ?_
  refine xr_istore_n (n := 4) C [(3, .int 0), (2, .int 0), (0, .ref g), (1, .int i1)] dX9_severalOr_3 (by decide) rfl rfl ?_
  refine xr_lv (lv' := [(0, .ref g), (1, .int i1), (2, .int 0), (3, .int 0)]) [2, 3, 1, 0] rfl ?_
  obtain ⟨b_1, hb_1, hR⟩ := yf_b hR
  have K_1 : X p l e (yR 3 0 0) s m args below meth c D A H0 4 Q [[(g, .inr (11, [.int gth, .ref gw, .ref gB, .ref gK, .ref gU, .ref gS, .int gbe, .int gwo, .long gta, .null, .int glr, .int glc, .int gti, .int ggo, .ref gR, .int gch, .ref gD]))], [(gR, .inl (cy 3, gRn, .inr (.inr (.inr (.inr (yad gRd))))))], xg_rows gRd gRn (cy 1) gRk gRG] 0 0 [(0, .ref g), (1, .int i1), (2, .int b_1.1)] 53 [] := by
    refine xr_iload_n (n := 54) (j := 2) C dX9_severalOr_53 rfl rfl ?_
    refine xr_iconst (n := 55) (v := 1) C dX9_severalOr_54 rfl rfl ?_
    refine xr_icmp_le (tgt := 63) (n := 58) C dX9_severalOr_55 rfl rfl (fun c_2 => ?_) (fun c_2 => ?_)
    · replace hR := yf_t c_2 hR
      refine xr_aload_n (n := 64) (j := 0) C dX9_severalOr_63 rfl rfl ?_
      refine xr_iload_n (n := 65) (j := 1) C dX9_severalOr_64 rfl rfl ?_
      obtain ⟨x_3, hx_3, hR⟩ := yf_b hR
      refine xr_callVp (n := 68) (As := [.int i1]) (rest := []) C (kX9_wrong_i l D cy (g := g) (gth := gth) (gw := gw) (gB := gB) (gK := gK) (gU := gU) (gS := gS) (gbe := gbe) (gwo := gwo) (gta := gta) (glr := glr) (glc := glc) (gti := gti) (ggo := ggo) (gR := gR) (gch := gch) (gD := gD) (gRd := gRd) (gRn := gRn) (gRk := gRk) (gRG := gRG) (i1 := i1) hx_3) mX9_wrong u_1504 u_1506 u_48 0 rfl rfl 3 [0, 1, 2] [] rfl (by decide +kernel) rfl rfl rfl rfl (Nat.le_of_ble_eq_true rfl) (Nat.le_of_ble_eq_true rfl) (Nat.le_of_ble_eq_true rfl) (Nat.le_of_ble_eq_true rfl) (Nat.le_of_ble_eq_true rfl) dX9_severalOr_65 rfl (fun _ _ hp => hp.2) (fun v_4 hp_6 => ?_)
      obtain ⟨rfl, -⟩ := hp_6
      refine xr_st (st' := [.int x_3]) rfl ?_
      obtain rfl := Option.some.inj hR
      exact ret x_3 ⟨rfl, rfl⟩ (Nat.le_of_ble_eq_true rfl) (Nat.le_of_ble_eq_true rfl) dX9_severalOr_68
    · replace hR := yf_f c_2 hR
      refine xr_bipush (n := 60) (v := -2) C dX9_severalOr_58 rfl rfl ?_
      refine xr_goto (tgt := 68) C dX9_severalOr_60 rfl ?_
      obtain rfl := Option.some.inj hR
      exact ret (-2) ⟨rfl, rfl⟩ (Nat.le_of_ble_eq_true rfl) (Nat.le_of_ble_eq_true rfl) dX9_severalOr_68
  refine y_loop (P := fun s_1 => X p l e (yR 3 0 0) s m args below meth c D A H0 4 Q [[(g, .inr (11, [.int gth, .ref gw, .ref gB, .ref gK, .ref gU, .ref gS, .int gbe, .int gwo, .long gta, .null, .int glr, .int glc, .int gti, .int ggo, .ref gR, .int gch, .ref gD]))], [(gR, .inl (cy 3, gRn, .inr (.inr (.inr (.inr (yad gRd))))))], xg_rows gRd gRn (cy 1) gRk gRG] 0 0 [(0, .ref g), (1, .int i1), (2, .int s_1.1), (3, .int s_1.2)] 4 []) ?_ _ _ hb_1
  intro s_1 o_1 ho_1 hk_1 hx_1
  refine xr_iload_n (n := 5) (j := 3) C dX9_severalOr_4 rfl rfl ?_
  refine xr_iload_n (n := 6) (j := 1) C dX9_severalOr_5 rfl rfl ?_
  obtain ⟨r_9, hE_9, ho_1⟩ := yf_b ho_1
  have J_9 : X p l e (yR 3 0 0) s m args below meth c D A H0 4 Q [[(g, .inr (11, [.int gth, .ref gw, .ref gB, .ref gK, .ref gU, .ref gS, .int gbe, .int gwo, .long gta, .null, .int glr, .int glc, .int gti, .int ggo, .ref gR, .int gch, .ref gD]))], [(gR, .inl (cy 3, gRn, .inr (.inr (.inr (.inr (yad gRd))))))], xg_rows gRd gRn (cy 1) gRk gRG] 0 0 [(0, .ref g), (1, .int i1), (2, .int s_1.1), (3, .int s_1.2)] 24 [.int r_9, .int s_1.2] := by
    refine xr_icmp_ge (tgt := 53) (n := 27) C dX9_severalOr_24 rfl rfl (fun c_10 => ?_) (fun c_10 => ?_)
    · replace ho_1 := yf_t c_10 ho_1
      refine xr_lv (lv' := [(0, .ref g), (1, .int i1), (2, .int s_1.1)]) [0, 1, 2] rfl ?_
      have e_11 := hx_1 _ (Option.some.inj ho_1).symm
      subst e_11
      exact K_1
    · replace ho_1 := yf_f c_10 ho_1
      refine xr_iload_n (n := 28) (j := 2) C dX9_severalOr_27 rfl rfl ?_
      refine xr_aload_n (n := 29) (j := 0) C dX9_severalOr_28 rfl rfl ?_
      refine xr_iload_n (n := 30) (j := 1) C dX9_severalOr_29 rfl rfl ?_
      refine xr_iload_n (n := 31) (j := 3) C dX9_severalOr_30 rfl rfl ?_
      obtain ⟨x_12, hx_12, ho_1⟩ := yf_b ho_1
      refine xr_callVp (n := 34) (As := [.int i1, .int s_1.2]) (rest := [.int s_1.1]) C (kX9_off_i l D cy (g := g) (gth := gth) (gw := gw) (gB := gB) (gK := gK) (gU := gU) (gS := gS) (gbe := gbe) (gwo := gwo) (gta := gta) (glr := glr) (glc := glc) (gti := gti) (ggo := ggo) (gR := gR) (gch := gch) (gD := gD) (gRd := gRd) (gRn := gRn) (gRk := gRk) (gRG := gRG) (i1 := i1) (i2 := s_1.2) hx_12) mX9_off u_1500 u_1502 u_47 0 rfl rfl 3 [0, 1, 2] [] rfl (by decide +kernel) rfl rfl rfl rfl (Nat.le_of_ble_eq_true rfl) (Nat.le_of_ble_eq_true rfl) (Nat.le_of_ble_eq_true rfl) (Nat.le_of_ble_eq_true rfl) (Nat.le_of_ble_eq_true rfl) dX9_severalOr_31 rfl (fun _ _ hp => hp.2) (fun v_13 hp_15 => ?_)
      obtain ⟨rfl, -⟩ := hp_15
      refine xr_st (st' := [.int x_12, .int s_1.1]) rfl ?_
      obtain ⟨r_17, hE_17, ho_1⟩ := yf_b ho_1
      have J_17 : X p l e (yR 3 0 0) s m args below meth c D A H0 4 Q [[(g, .inr (11, [.int gth, .ref gw, .ref gB, .ref gK, .ref gU, .ref gS, .int gbe, .int gwo, .long gta, .null, .int glr, .int glc, .int gti, .int ggo, .ref gR, .int gch, .ref gD]))], [(gR, .inl (cy 3, gRn, .inr (.inr (.inr (.inr (yad gRd))))))], xg_rows gRd gRn (cy 1) gRk gRG] 0 0 [(0, .ref g), (1, .int i1), (3, .int s_1.2)] 42 [.int r_17, .int s_1.1] := by
        obtain ⟨x_18, hx_18, ho_1⟩ := yf_b ho_1
        refine xr_callSp (n := 45) (As := [.int r_17]) (rest := [.int s_1.1]) C (kX9_one l D cy (i1 := r_17) hx_18) mX9_one u_1312 u_1313 3 [] [0, 1, 2] rfl (by decide +kernel) rfl rfl rfl rfl (Nat.le_of_ble_eq_true rfl) (Nat.le_of_ble_eq_true rfl) (Nat.le_of_ble_eq_true rfl) (Nat.le_of_ble_eq_true rfl) (Nat.le_of_ble_eq_true rfl) dX9_severalOr_42 rfl (fun _ _ hp => hp.2) (fun v_19 hp_21 => ?_)
        obtain ⟨rfl, -⟩ := hp_21
        refine xr_st (st' := [.int x_18, .int s_1.1]) rfl ?_
        refine xr_iadd (n := 46) C dX9_severalOr_45 rfl ?_
        refine xr_istore_n (n := 47) C [(2, .int (s_1.1 + x_18)), (0, .ref g), (1, .int i1), (3, .int s_1.2)] dX9_severalOr_46 (by decide) rfl rfl ?_
        refine xr_iinc (j := 3) (v := s_1.2 + 1) (n := 50) C [(3, .int (s_1.2 + 1)), (2, .int (s_1.1 + x_18)), (0, .ref g), (1, .int i1)] dX9_severalOr_47 rfl rfl (by decide) rfl rfl ?_
        refine xr_goto (tgt := 4) C dX9_severalOr_50 rfl ?_
        refine xr_lv (lv' := [(0, .ref g), (1, .int i1), (2, .int (s_1.1 + x_18)), (3, .int (s_1.2 + 1))]) [2, 3, 1, 0] rfl ?_
        exact hk_1 _ (Option.some.inj ho_1).symm
      refine xr_if_eq (tgt := 41) (n := 37) C dX9_severalOr_34 rfl rfl (fun c_22 => ?_) (fun c_22 => ?_)
      · replace hE_17 := yf_t c_22 hE_17
        refine xr_iconst (n := 42) (v := 0) C dX9_severalOr_41 rfl rfl ?_
        refine xr_lv (lv' := [(0, .ref g), (1, .int i1), (3, .int s_1.2)]) [0, 1, 3] rfl ?_
        have e_23 := Option.some.inj hE_17
        subst e_23
        exact J_17
      · replace hE_17 := yf_f c_22 hE_17
        refine xr_iconst (n := 38) (v := 1) C dX9_severalOr_37 rfl rfl ?_
        refine xr_goto (tgt := 42) C dX9_severalOr_38 rfl ?_
        refine xr_lv (lv' := [(0, .ref g), (1, .int i1), (3, .int s_1.2)]) [0, 1, 3] rfl ?_
        have e_24 := Option.some.inj hE_17
        subst e_24
        exact J_17
  refine xr_if_eq (tgt := 17) (n := 9) C dX9_severalOr_6 rfl rfl (fun c_25 => ?_) (fun c_25 => ?_)
  · replace hE_9 := yf_t c_25 hE_9
    refine xr_aload_n (n := 18) (j := 0) C dX9_severalOr_17 rfl rfl ?_
    refine xr_get (n := 21) C 0 rfl rfl 14 (by decide) in_X9 u_1251 rfl (v := .ref gR) rfl dX9_severalOr_18 rfl ?_
    refine xr_iconst (n := 22) (v := 0) C dX9_severalOr_21 rfl rfl ?_
    obtain ⟨g_26, hE_9⟩ := yf_g hE_9
    refine xr_aald (n := 23) C 1 0 rfl 3 rfl rfl g_26 rfl dX9_severalOr_22 rfl ?_
    refine xr_aleng (n := 24) C 2 1 rfl ((0 : Int32).toNatClampNeg) (ylt g_26) rfl dX9_severalOr_23 rfl ?_
    have e_27 := Option.some.inj hE_9
    subst e_27
    exact J_9
  · replace hE_9 := yf_f c_25 hE_9
    refine xr_aload_n (n := 10) (j := 0) C dX9_severalOr_9 rfl rfl ?_
    refine xr_get (n := 13) C 0 rfl rfl 14 (by decide) in_X9 u_1251 rfl (v := .ref gR) rfl dX9_severalOr_10 rfl ?_
    refine xr_alen (n := 14) C 1 0 rfl 3 rfl rfl dX9_severalOr_13 rfl ?_
    refine xr_goto (tgt := 24) C dX9_severalOr_14 rfl ?_
    have e_28 := Option.some.inj hE_9
    subst e_28
    exact J_9
def fX9_severalOr_r (gRn : Nat) (gRk : Nat) (gRG : Nat → Nat → Int32) (i1 : Int32) : Option (Int32) := ((wl (S := Int32 × Int32) (B := Int32 × Int32) (fun s_1 => ((((if i1 = 0 then (if ¬ ((0 : Int32) < 0 ∨ gRn ≤ (0 : Int32).toNatClampNeg) then some (nI gRk) else none) else some (nI gRn)) : Option (Int32))).bind fun r_9 => (if r_9 ≤ s_1.2 then some (.inr (s_1.1, s_1.2)) else ((fX9_off_r gRn gRk gRG i1 s_1.2).bind fun x_12 => ((((if x_12 = 0 then some 0 else some 1) : Option (Int32))).bind fun r_17 => ((fX9_one r_17).bind fun x_18 => some (.inl (s_1.1 + x_18, s_1.2 + 1)))))))) yFuel (0, 0)).bind fun b_1 => (if b_1.1 ≤ 1 then ((fX9_wrong_r gRn gRk gRG i1).bind fun x_3 => some x_3) else some (-2)))
set_option maxHeartbeats 4000000 in
set_option maxRecDepth 100000 in
theorem kX9_severalOr_r (l : Launch) (D : va_G) (cy : Nat → ClassId) (g : Nat) (gth : Int32) (gw : Nat) (gB : Nat) (gK : Nat) (gU : Nat) (gS : Nat) (gbe : Int32) (gwo : Int32) (gta : Int64) (gn : Nat) (glr : Int32) (glc : Int32) (gti : Int32) (ggo : Int32) (gR : Nat) (gch : Int32) (gD : Nat) (gRd : Nat → Nat) (gRn : Nat) (gRk : Nat) (gRG : Nat → Nat → Int32) (i1 : Int32) {res : Int32} (hR : fX9_severalOr_r gRn gRk gRG i1 = some res) : YM l D cy yX9_severalOr hX9_severalOr 3 0 0 [.ref g, .int i1] [[(g, .inr (11, [.int gth, .ref gw, .ref gB, .ref gK, .ref gU, .ref gS, .int gbe, .int gwo, .long gta, .ref gn, .int glr, .int glc, .int gti, .int ggo, .ref gR, .int gch, .ref gD]))], [(gR, .inl (cy 3, gRn, .inr (.inr (.inr (.inr (yad gRd))))))], xg_rows gRd gRn (cy 1) gRk gRG] (fun v u => v = some (.int res) ∧ u = [[(g, .inr (11, [.int gth, .ref gw, .ref gB, .ref gK, .ref gU, .ref gS, .int gbe, .int gwo, .long gta, .ref gn, .int glr, .int glc, .int gti, .int ggo, .ref gR, .int gch, .ref gD]))], [(gR, .inl (cy 3, gRn, .inr (.inr (.inr (.inr (yad gRd))))))], xg_rows gRd gRn (cy 1) gRk gRG]) := by
  unfold fX9_severalOr_r at hR
  refine YM.ofI (cc := cX9_severalOr) (maxL := 4) (ret := (some .int)) (by decide +kernel) rfl (Nat.le_of_ble_eq_true rfl) [(0, .ref g), (1, .int i1)] rfl rfl (fun p e s m args below meth c A H0 Q C hnm ret => ?_)
  refine xr_iconst (n := 1) (v := 0) C dX9_severalOr_0 rfl rfl ?_
  refine xr_istore_n (n := 2) C [(2, .int 0), (0, .ref g), (1, .int i1)] dX9_severalOr_1 (by decide) rfl rfl ?_
  refine xr_iconst (n := 3) (v := 0) C dX9_severalOr_2 rfl rfl ?_
  refine xr_istore_n (n := 4) C [(3, .int 0), (2, .int 0), (0, .ref g), (1, .int i1)] dX9_severalOr_3 (by decide) rfl rfl ?_
  refine xr_lv (lv' := [(0, .ref g), (1, .int i1), (2, .int 0), (3, .int 0)]) [2, 3, 1, 0] rfl ?_
  obtain ⟨b_1, hb_1, hR⟩ := yf_b hR
  have K_1 : X p l e (yR 3 0 0) s m args below meth c D A H0 4 Q [[(g, .inr (11, [.int gth, .ref gw, .ref gB, .ref gK, .ref gU, .ref gS, .int gbe, .int gwo, .long gta, .ref gn, .int glr, .int glc, .int gti, .int ggo, .ref gR, .int gch, .ref gD]))], [(gR, .inl (cy 3, gRn, .inr (.inr (.inr (.inr (yad gRd))))))], xg_rows gRd gRn (cy 1) gRk gRG] 0 0 [(0, .ref g), (1, .int i1), (2, .int b_1.1)] 53 [] := by
    refine xr_iload_n (n := 54) (j := 2) C dX9_severalOr_53 rfl rfl ?_
    refine xr_iconst (n := 55) (v := 1) C dX9_severalOr_54 rfl rfl ?_
    refine xr_icmp_le (tgt := 63) (n := 58) C dX9_severalOr_55 rfl rfl (fun c_2 => ?_) (fun c_2 => ?_)
    · replace hR := yf_t c_2 hR
      refine xr_aload_n (n := 64) (j := 0) C dX9_severalOr_63 rfl rfl ?_
      refine xr_iload_n (n := 65) (j := 1) C dX9_severalOr_64 rfl rfl ?_
      obtain ⟨x_3, hx_3, hR⟩ := yf_b hR
      refine xr_callVp (n := 68) (As := [.int i1]) (rest := []) C (kX9_wrong_r l D cy (g := g) (gth := gth) (gw := gw) (gB := gB) (gK := gK) (gU := gU) (gS := gS) (gbe := gbe) (gwo := gwo) (gta := gta) (gn := gn) (glr := glr) (glc := glc) (gti := gti) (ggo := ggo) (gR := gR) (gch := gch) (gD := gD) (gRd := gRd) (gRn := gRn) (gRk := gRk) (gRG := gRG) (i1 := i1) hx_3) mX9_wrong u_1504 u_1506 u_48 0 rfl rfl 3 [0, 1, 2] [] rfl (by decide +kernel) rfl rfl rfl rfl (Nat.le_of_ble_eq_true rfl) (Nat.le_of_ble_eq_true rfl) (Nat.le_of_ble_eq_true rfl) (Nat.le_of_ble_eq_true rfl) (Nat.le_of_ble_eq_true rfl) dX9_severalOr_65 rfl (fun _ _ hp => hp.2) (fun v_4 hp_6 => ?_)
      obtain ⟨rfl, -⟩ := hp_6
      refine xr_st (st' := [.int x_3]) rfl ?_
      obtain rfl := Option.some.inj hR
      exact ret x_3 ⟨rfl, rfl⟩ (Nat.le_of_ble_eq_true rfl) (Nat.le_of_ble_eq_true rfl) dX9_severalOr_68
    · replace hR := yf_f c_2 hR
      refine xr_bipush (n := 60) (v := -2) C dX9_severalOr_58 rfl rfl ?_
      refine xr_goto (tgt := 68) C dX9_severalOr_60 rfl ?_
      obtain rfl := Option.some.inj hR
      exact ret (-2) ⟨rfl, rfl⟩ (Nat.le_of_ble_eq_true rfl) (Nat.le_of_ble_eq_true rfl) dX9_severalOr_68
  refine y_loop (P := fun s_1 => X p l e (yR 3 0 0) s m args below meth c D A H0 4 Q [[(g, .inr (11, [.int gth, .ref gw, .ref gB, .ref gK, .ref gU, .ref gS, .int gbe, .int gwo, .long gta, .ref gn, .int glr, .int glc, .int gti, .int ggo, .ref gR, .int gch, .ref gD]))], [(gR, .inl (cy 3, gRn, .inr (.inr (.inr (.inr (yad gRd))))))], xg_rows gRd gRn (cy 1) gRk gRG] 0 0 [(0, .ref g), (1, .int i1), (2, .int s_1.1), (3, .int s_1.2)] 4 []) ?_ _ _ hb_1
  intro s_1 o_1 ho_1 hk_1 hx_1
  refine xr_iload_n (n := 5) (j := 3) C dX9_severalOr_4 rfl rfl ?_
  refine xr_iload_n (n := 6) (j := 1) C dX9_severalOr_5 rfl rfl ?_
  obtain ⟨r_9, hE_9, ho_1⟩ := yf_b ho_1
  have J_9 : X p l e (yR 3 0 0) s m args below meth c D A H0 4 Q [[(g, .inr (11, [.int gth, .ref gw, .ref gB, .ref gK, .ref gU, .ref gS, .int gbe, .int gwo, .long gta, .ref gn, .int glr, .int glc, .int gti, .int ggo, .ref gR, .int gch, .ref gD]))], [(gR, .inl (cy 3, gRn, .inr (.inr (.inr (.inr (yad gRd))))))], xg_rows gRd gRn (cy 1) gRk gRG] 0 0 [(0, .ref g), (1, .int i1), (2, .int s_1.1), (3, .int s_1.2)] 24 [.int r_9, .int s_1.2] := by
    refine xr_icmp_ge (tgt := 53) (n := 27) C dX9_severalOr_24 rfl rfl (fun c_10 => ?_) (fun c_10 => ?_)
    · replace ho_1 := yf_t c_10 ho_1
      refine xr_lv (lv' := [(0, .ref g), (1, .int i1), (2, .int s_1.1)]) [0, 1, 2] rfl ?_
      have e_11 := hx_1 _ (Option.some.inj ho_1).symm
      subst e_11
      exact K_1
    · replace ho_1 := yf_f c_10 ho_1
      refine xr_iload_n (n := 28) (j := 2) C dX9_severalOr_27 rfl rfl ?_
      refine xr_aload_n (n := 29) (j := 0) C dX9_severalOr_28 rfl rfl ?_
      refine xr_iload_n (n := 30) (j := 1) C dX9_severalOr_29 rfl rfl ?_
      refine xr_iload_n (n := 31) (j := 3) C dX9_severalOr_30 rfl rfl ?_
      obtain ⟨x_12, hx_12, ho_1⟩ := yf_b ho_1
      refine xr_callVp (n := 34) (As := [.int i1, .int s_1.2]) (rest := [.int s_1.1]) C (kX9_off_r l D cy (g := g) (gth := gth) (gw := gw) (gB := gB) (gK := gK) (gU := gU) (gS := gS) (gbe := gbe) (gwo := gwo) (gta := gta) (gn := gn) (glr := glr) (glc := glc) (gti := gti) (ggo := ggo) (gR := gR) (gch := gch) (gD := gD) (gRd := gRd) (gRn := gRn) (gRk := gRk) (gRG := gRG) (i1 := i1) (i2 := s_1.2) hx_12) mX9_off u_1500 u_1502 u_47 0 rfl rfl 3 [0, 1, 2] [] rfl (by decide +kernel) rfl rfl rfl rfl (Nat.le_of_ble_eq_true rfl) (Nat.le_of_ble_eq_true rfl) (Nat.le_of_ble_eq_true rfl) (Nat.le_of_ble_eq_true rfl) (Nat.le_of_ble_eq_true rfl) dX9_severalOr_31 rfl (fun _ _ hp => hp.2) (fun v_13 hp_15 => ?_)
      obtain ⟨rfl, -⟩ := hp_15
      refine xr_st (st' := [.int x_12, .int s_1.1]) rfl ?_
      obtain ⟨r_17, hE_17, ho_1⟩ := yf_b ho_1
      have J_17 : X p l e (yR 3 0 0) s m args below meth c D A H0 4 Q [[(g, .inr (11, [.int gth, .ref gw, .ref gB, .ref gK, .ref gU, .ref gS, .int gbe, .int gwo, .long gta, .ref gn, .int glr, .int glc, .int gti, .int ggo, .ref gR, .int gch, .ref gD]))], [(gR, .inl (cy 3, gRn, .inr (.inr (.inr (.inr (yad gRd))))))], xg_rows gRd gRn (cy 1) gRk gRG] 0 0 [(0, .ref g), (1, .int i1), (3, .int s_1.2)] 42 [.int r_17, .int s_1.1] := by
        obtain ⟨x_18, hx_18, ho_1⟩ := yf_b ho_1
        refine xr_callSp (n := 45) (As := [.int r_17]) (rest := [.int s_1.1]) C (kX9_one l D cy (i1 := r_17) hx_18) mX9_one u_1312 u_1313 3 [] [0, 1, 2] rfl (by decide +kernel) rfl rfl rfl rfl (Nat.le_of_ble_eq_true rfl) (Nat.le_of_ble_eq_true rfl) (Nat.le_of_ble_eq_true rfl) (Nat.le_of_ble_eq_true rfl) (Nat.le_of_ble_eq_true rfl) dX9_severalOr_42 rfl (fun _ _ hp => hp.2) (fun v_19 hp_21 => ?_)
        obtain ⟨rfl, -⟩ := hp_21
        refine xr_st (st' := [.int x_18, .int s_1.1]) rfl ?_
        refine xr_iadd (n := 46) C dX9_severalOr_45 rfl ?_
        refine xr_istore_n (n := 47) C [(2, .int (s_1.1 + x_18)), (0, .ref g), (1, .int i1), (3, .int s_1.2)] dX9_severalOr_46 (by decide) rfl rfl ?_
        refine xr_iinc (j := 3) (v := s_1.2 + 1) (n := 50) C [(3, .int (s_1.2 + 1)), (2, .int (s_1.1 + x_18)), (0, .ref g), (1, .int i1)] dX9_severalOr_47 rfl rfl (by decide) rfl rfl ?_
        refine xr_goto (tgt := 4) C dX9_severalOr_50 rfl ?_
        refine xr_lv (lv' := [(0, .ref g), (1, .int i1), (2, .int (s_1.1 + x_18)), (3, .int (s_1.2 + 1))]) [2, 3, 1, 0] rfl ?_
        exact hk_1 _ (Option.some.inj ho_1).symm
      refine xr_if_eq (tgt := 41) (n := 37) C dX9_severalOr_34 rfl rfl (fun c_22 => ?_) (fun c_22 => ?_)
      · replace hE_17 := yf_t c_22 hE_17
        refine xr_iconst (n := 42) (v := 0) C dX9_severalOr_41 rfl rfl ?_
        refine xr_lv (lv' := [(0, .ref g), (1, .int i1), (3, .int s_1.2)]) [0, 1, 3] rfl ?_
        have e_23 := Option.some.inj hE_17
        subst e_23
        exact J_17
      · replace hE_17 := yf_f c_22 hE_17
        refine xr_iconst (n := 38) (v := 1) C dX9_severalOr_37 rfl rfl ?_
        refine xr_goto (tgt := 42) C dX9_severalOr_38 rfl ?_
        refine xr_lv (lv' := [(0, .ref g), (1, .int i1), (3, .int s_1.2)]) [0, 1, 3] rfl ?_
        have e_24 := Option.some.inj hE_17
        subst e_24
        exact J_17
  refine xr_if_eq (tgt := 17) (n := 9) C dX9_severalOr_6 rfl rfl (fun c_25 => ?_) (fun c_25 => ?_)
  · replace hE_9 := yf_t c_25 hE_9
    refine xr_aload_n (n := 18) (j := 0) C dX9_severalOr_17 rfl rfl ?_
    refine xr_get (n := 21) C 0 rfl rfl 14 (by decide) in_X9 u_1251 rfl (v := .ref gR) rfl dX9_severalOr_18 rfl ?_
    refine xr_iconst (n := 22) (v := 0) C dX9_severalOr_21 rfl rfl ?_
    obtain ⟨g_26, hE_9⟩ := yf_g hE_9
    refine xr_aald (n := 23) C 1 0 rfl 3 rfl rfl g_26 rfl dX9_severalOr_22 rfl ?_
    refine xr_aleng (n := 24) C 2 1 rfl ((0 : Int32).toNatClampNeg) (ylt g_26) rfl dX9_severalOr_23 rfl ?_
    have e_27 := Option.some.inj hE_9
    subst e_27
    exact J_9
  · replace hE_9 := yf_f c_25 hE_9
    refine xr_aload_n (n := 10) (j := 0) C dX9_severalOr_9 rfl rfl ?_
    refine xr_get (n := 13) C 0 rfl rfl 14 (by decide) in_X9 u_1251 rfl (v := .ref gR) rfl dX9_severalOr_10 rfl ?_
    refine xr_alen (n := 14) C 1 0 rfl 3 rfl rfl dX9_severalOr_13 rfl ?_
    refine xr_goto (tgt := 24) C dX9_severalOr_14 rfl ?_
    have e_28 := Option.some.inj hE_9
    subst e_28
    exact J_9
