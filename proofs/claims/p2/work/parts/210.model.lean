theorem u_1252 : Cond.fieldLink RX9 223 "PulsemeshModel" "areChecked" "Z" ∈ yU := yu 1252 (by decide +kernel) (by decide +kernel)
theorem u_1496 : Cond.methodLink RX9 235 yX9_severalOr ∈ yU := yu 1496 (by decide +kernel) (by decide +kernel)
theorem u_1498 : Cond.instanceMethod yX9_severalOr ∈ yU := yu 1498 (by decide +kernel) (by decide +kernel)
theorem u_46 : Cond.selects RX9 yX9_severalOr yX9_severalOr ∈ yU := yu 46 (by decide +kernel) (by decide +kernel)
theorem u_1495 : Cond.code yX9_check cX9_check 5 (some .int) ∈ yU := yu 1495 (by decide +kernel) (by decide +kernel)
theorem u_1442 : Cond.methodLink RX9 193 yX8_skipped ∈ yU := yu 1442 (by decide +kernel) (by decide +kernel)
theorem u_1243 : Cond.fieldLink RX9 213 "PulsemeshModel" "beats" "I" ∈ yU := yu 1243 (by decide +kernel) (by decide +kernel)
theorem u_1244 : Cond.fieldLink RX9 184 "PulsemeshModel" "works" "I" ∈ yU := yu 1244 (by decide +kernel) (by decide +kernel)
theorem u_1418 : Cond.methodLink RX9 187 yX9_left_ ∈ yU := yu 1418 (by decide +kernel) (by decide +kernel)
theorem u_1420 : Cond.instanceMethod yX9_left_ ∈ yU := yu 1420 (by decide +kernel) (by decide +kernel)
theorem u_35 : Cond.selects RX9 yX9_left_ yX9_left_ ∈ yU := yu 35 (by decide +kernel) (by decide +kernel)
theorem u_1515 : Cond.code yX9_meshTold cX9_meshTold 2 (some .int) ∈ yU := yu 1515 (by decide +kernel) (by decide +kernel)
theorem u_1512 : Cond.methodLink RX9 241 yX9_meshTold ∈ yU := yu 1512 (by decide +kernel) (by decide +kernel)
theorem u_1514 : Cond.instanceMethod yX9_meshTold ∈ yU := yu 1514 (by decide +kernel) (by decide +kernel)
theorem u_49 : Cond.selects RX9 yX9_meshTold yX9_meshTold ∈ yU := yu 49 (by decide +kernel) (by decide +kernel)
theorem u_1511 : Cond.code yX9_mesh cX9_mesh 2 (some .int) ∈ yU := yu 1511 (by decide +kernel) (by decide +kernel)
theorem dX9_check_0 : decode cX9_check 0 = .ok (.aload_n 0, 1) := by decide +kernel
theorem dX9_check_1 : decode cX9_check 1 = .ok (.aload_n 0, 1) := by decide +kernel
theorem dX9_check_2 : decode cX9_check 2 = .ok (.getfield 38, 3) := by decide +kernel
theorem dX9_check_5 : decode cX9_check 5 = .ok (.arraylength, 1) := by decide +kernel
theorem dX9_check_6 : decode cX9_check 6 = .ok (.ifCond .eq 10, 3) := by decide +kernel
theorem dX9_check_9 : decode cX9_check 9 = .ok (.aload_n 0, 1) := by decide +kernel
theorem dX9_check_10 : decode cX9_check 10 = .ok (.getfield 223, 3) := by decide +kernel
theorem dX9_check_13 : decode cX9_check 13 = .ok (.ifCond .ne 7, 3) := by decide +kernel
theorem dX9_check_16 : decode cX9_check 16 = .ok (.iconst 1, 1) := by decide +kernel
theorem dX9_check_17 : decode cX9_check 17 = .ok (.goto 4, 3) := by decide +kernel
theorem dX9_check_20 : decode cX9_check 20 = .ok (.iconst 0, 1) := by decide +kernel
theorem dX9_check_21 : decode cX9_check 21 = .ok (.iconst 1, 1) := by decide +kernel
theorem dX9_check_22 : decode cX9_check 22 = .ok (.invokevirtual 79, 3) := by decide +kernel
theorem dX9_check_25 : decode cX9_check 25 = .ok (.ifCond .eq 5, 3) := by decide +kernel
theorem dX9_check_28 : decode cX9_check 28 = .ok (.iconst 0, 1) := by decide +kernel
theorem dX9_check_29 : decode cX9_check 29 = .ok (.ireturn, 1) := by decide +kernel
theorem dX9_check_30 : decode cX9_check 30 = .ok (.aload_n 0, 1) := by decide +kernel
theorem dX9_check_31 : decode cX9_check 31 = .ok (.iconst 1, 1) := by decide +kernel
theorem dX9_check_32 : decode cX9_check 32 = .ok (.invokevirtual 235, 3) := by decide +kernel
theorem dX9_check_35 : decode cX9_check 35 = .ok (.istore_n 1, 1) := by decide +kernel
theorem dX9_check_36 : decode cX9_check 36 = .ok (.aload_n 0, 1) := by decide +kernel
theorem dX9_check_37 : decode cX9_check 37 = .ok (.iconst 0, 1) := by decide +kernel
theorem dX9_check_38 : decode cX9_check 38 = .ok (.invokevirtual 235, 3) := by decide +kernel
theorem dX9_check_41 : decode cX9_check 41 = .ok (.istore_n 2, 1) := by decide +kernel
theorem dX9_check_42 : decode cX9_check 42 = .ok (.iload_n 1, 1) := by decide +kernel
theorem dX9_check_43 : decode cX9_check 43 = .ok (.iconst (-1), 1) := by decide +kernel
theorem dX9_check_44 : decode cX9_check 44 = .ok (.if_icmp .ne 10, 3) := by decide +kernel
theorem dX9_check_47 : decode cX9_check 47 = .ok (.iload_n 2, 1) := by decide +kernel
theorem dX9_check_48 : decode cX9_check 48 = .ok (.iconst (-1), 1) := by decide +kernel
theorem dX9_check_49 : decode cX9_check 49 = .ok (.if_icmp .ne 5, 3) := by decide +kernel
theorem dX9_check_52 : decode cX9_check 52 = .ok (.iconst 0, 1) := by decide +kernel
theorem dX9_check_53 : decode cX9_check 53 = .ok (.ireturn, 1) := by decide +kernel
theorem dX9_check_54 : decode cX9_check 54 = .ok (.iload_n 1, 1) := by decide +kernel
theorem dX9_check_55 : decode cX9_check 55 = .ok (.ifCond .lt 7, 3) := by decide +kernel
theorem dX9_check_58 : decode cX9_check 58 = .ok (.iload_n 2, 1) := by decide +kernel
theorem dX9_check_59 : decode cX9_check 59 = .ok (.ifCond .ge 5, 3) := by decide +kernel
theorem dX9_check_62 : decode cX9_check 62 = .ok (.iconst 2, 1) := by decide +kernel
theorem dX9_check_63 : decode cX9_check 63 = .ok (.ireturn, 1) := by decide +kernel
theorem dX9_check_64 : decode cX9_check 64 = .ok (.iload_n 2, 1) := by decide +kernel
theorem dX9_check_65 : decode cX9_check 65 = .ok (.aload_n 0, 1) := by decide +kernel
theorem dX9_check_66 : decode cX9_check 66 = .ok (.getfield 38, 3) := by decide +kernel
theorem dX9_check_69 : decode cX9_check 69 = .ok (.iconst 0, 1) := by decide +kernel
theorem dX9_check_70 : decode cX9_check 70 = .ok (.aaload, 1) := by decide +kernel
theorem dX9_check_71 : decode cX9_check 71 = .ok (.arraylength, 1) := by decide +kernel
theorem dX9_check_72 : decode cX9_check 72 = .ok (.iconst 1, 1) := by decide +kernel
theorem dX9_check_73 : decode cX9_check 73 = .ok (.isub, 1) := by decide +kernel
theorem dX9_check_74 : decode cX9_check 74 = .ok (.if_icmp .ne 13, 3) := by decide +kernel
theorem dX9_check_77 : decode cX9_check 77 = .ok (.aload_n 0, 1) := by decide +kernel
theorem dX9_check_78 : decode cX9_check 78 = .ok (.iconst 1, 1) := by decide +kernel
theorem dX9_check_79 : decode cX9_check 79 = .ok (.iload_n 1, 1) := by decide +kernel
theorem dX9_check_80 : decode cX9_check 80 = .ok (.invokevirtual 231, 3) := by decide +kernel
theorem dX9_check_83 : decode cX9_check 83 = .ok (.ineg, 1) := by decide +kernel
theorem dX9_check_84 : decode cX9_check 84 = .ok (.goto 9, 3) := by decide +kernel
theorem dX9_check_87 : decode cX9_check 87 = .ok (.aload_n 0, 1) := by decide +kernel
theorem dX9_check_88 : decode cX9_check 88 = .ok (.iconst 1, 1) := by decide +kernel
theorem dX9_check_89 : decode cX9_check 89 = .ok (.iload_n 1, 1) := by decide +kernel
theorem dX9_check_90 : decode cX9_check 90 = .ok (.invokevirtual 231, 3) := by decide +kernel
theorem dX9_check_93 : decode cX9_check 93 = .ok (.istore_n 3, 1) := by decide +kernel
theorem dX9_check_94 : decode cX9_check 94 = .ok (.iload_n 1, 1) := by decide +kernel
theorem dX9_check_95 : decode cX9_check 95 = .ok (.aload_n 0, 1) := by decide +kernel
theorem dX9_check_96 : decode cX9_check 96 = .ok (.getfield 38, 3) := by decide +kernel
theorem dX9_check_99 : decode cX9_check 99 = .ok (.arraylength, 1) := by decide +kernel
theorem dX9_check_100 : decode cX9_check 100 = .ok (.iconst 1, 1) := by decide +kernel
theorem dX9_check_101 : decode cX9_check 101 = .ok (.isub, 1) := by decide +kernel
theorem dX9_check_102 : decode cX9_check 102 = .ok (.if_icmp .ne 13, 3) := by decide +kernel
theorem dX9_check_105 : decode cX9_check 105 = .ok (.aload_n 0, 1) := by decide +kernel
theorem dX9_check_106 : decode cX9_check 106 = .ok (.iconst 0, 1) := by decide +kernel
theorem dX9_check_107 : decode cX9_check 107 = .ok (.iload_n 2, 1) := by decide +kernel
theorem dX9_check_108 : decode cX9_check 108 = .ok (.invokevirtual 231, 3) := by decide +kernel
theorem dX9_check_111 : decode cX9_check 111 = .ok (.ineg, 1) := by decide +kernel
theorem dX9_check_112 : decode cX9_check 112 = .ok (.goto 9, 3) := by decide +kernel
theorem dX9_check_115 : decode cX9_check 115 = .ok (.aload_n 0, 1) := by decide +kernel
theorem dX9_check_116 : decode cX9_check 116 = .ok (.iconst 0, 1) := by decide +kernel
theorem dX9_check_117 : decode cX9_check 117 = .ok (.iload_n 2, 1) := by decide +kernel
theorem dX9_check_118 : decode cX9_check 118 = .ok (.invokevirtual 231, 3) := by decide +kernel
theorem dX9_check_121 : decode cX9_check 121 = .ok (.istore 4, 2) := by decide +kernel
theorem dX9_check_123 : decode cX9_check 123 = .ok (.iload_n 3, 1) := by decide +kernel
theorem dX9_check_124 : decode cX9_check 124 = .ok (.iload 4, 2) := by decide +kernel
theorem dX9_check_126 : decode cX9_check 126 = .ok (.if_icmp .eq 5, 3) := by decide +kernel
theorem dX9_check_129 : decode cX9_check 129 = .ok (.iconst 2, 1) := by decide +kernel
theorem dX9_check_130 : decode cX9_check 130 = .ok (.ireturn, 1) := by decide +kernel
theorem dX9_check_131 : decode cX9_check 131 = .ok (.aload_n 0, 1) := by decide +kernel
theorem dX9_check_132 : decode cX9_check 132 = .ok (.getfield 38, 3) := by decide +kernel
theorem dX9_check_135 : decode cX9_check 135 = .ok (.iload_n 1, 1) := by decide +kernel
theorem dX9_check_136 : decode cX9_check 136 = .ok (.aaload, 1) := by decide +kernel
theorem dX9_check_137 : decode cX9_check 137 = .ok (.iload_n 2, 1) := by decide +kernel
theorem dX9_check_138 : decode cX9_check 138 = .ok (.dup2, 1) := by decide +kernel
theorem dX9_check_139 : decode cX9_check 139 = .ok (.iaload, 1) := by decide +kernel
theorem dX9_check_140 : decode cX9_check 140 = .ok (.iload_n 3, 1) := by decide +kernel
theorem dX9_check_141 : decode cX9_check 141 = .ok (.iadd, 1) := by decide +kernel
theorem dX9_check_142 : decode cX9_check 142 = .ok (.iastore, 1) := by decide +kernel
theorem dX9_check_143 : decode cX9_check 143 = .ok (.iconst 1, 1) := by decide +kernel
theorem dX9_check_144 : decode cX9_check 144 = .ok (.ireturn, 1) := by decide +kernel
def fX9_check_i (gch : Int32) (gRn : Nat) (gRk : Nat) (gRG : Nat → Nat → Int32) : Option (Int32 × Int32 × (Nat → Nat → Int32)) := ((((if (nI gRn) = 0 then some 1 else (if gch = 0 then some 1 else some 0)) : Option (Int32))).bind fun r_3 => ((fX9_start_i r_3 1).bind fun x_4 => (if x_4.1 = 0 then ((fX9_severalOr_i gRn gRk gRG 1).bind fun x_9 => ((fX9_severalOr_i gRn gRk gRG 0).bind fun x_13 => (if x_9 = (-1) then (if x_13 = (-1) then some (0, x_4.2, gRG) else (if x_9 < 0 then some (2, x_4.2, gRG) else (if 0 ≤ x_13 then (if ¬ ((0 : Int32) < 0 ∨ gRn ≤ (0 : Int32).toNatClampNeg) then ((((if x_13 = ((nI gRk) - 1) then ((fX9_off_i gRn gRk gRG 1 x_9).bind fun x_112 => some (-x_112)) else ((fX9_off_i gRn gRk gRG 1 x_9).bind fun x_107 => some x_107)) : Option (Int32))).bind fun r_80 => ((((if x_9 = ((nI gRn) - 1) then ((fX9_off_i gRn gRk gRG 0 x_13).bind fun x_101 => some (-x_101)) else ((fX9_off_i gRn gRk gRG 0 x_13).bind fun x_96 => some x_96)) : Option (Int32))).bind fun r_90 => (if r_80 = r_90 then (if ¬ (x_9 < 0 ∨ gRn ≤ x_9.toNatClampNeg) then (if ¬ (x_13 < 0 ∨ gRk ≤ x_13.toNatClampNeg) then (if ¬ (x_13 < 0 ∨ gRk ≤ x_13.toNatClampNeg) then some (1, x_4.2, upg gRG x_9.toNatClampNeg x_13.toNatClampNeg ((gRG x_9.toNatClampNeg x_13.toNatClampNeg) + r_80)) else none) else none) else none) else some (2, x_4.2, gRG)))) else none) else some (2, x_4.2, gRG)))) else (if x_9 < 0 then some (2, x_4.2, gRG) else (if 0 ≤ x_13 then (if ¬ ((0 : Int32) < 0 ∨ gRn ≤ (0 : Int32).toNatClampNeg) then ((((if x_13 = ((nI gRk) - 1) then ((fX9_off_i gRn gRk gRG 1 x_9).bind fun x_62 => some (-x_62)) else ((fX9_off_i gRn gRk gRG 1 x_9).bind fun x_57 => some x_57)) : Option (Int32))).bind fun r_30 => ((((if x_9 = ((nI gRn) - 1) then ((fX9_off_i gRn gRk gRG 0 x_13).bind fun x_51 => some (-x_51)) else ((fX9_off_i gRn gRk gRG 0 x_13).bind fun x_46 => some x_46)) : Option (Int32))).bind fun r_40 => (if r_30 = r_40 then (if ¬ (x_9 < 0 ∨ gRn ≤ x_9.toNatClampNeg) then (if ¬ (x_13 < 0 ∨ gRk ≤ x_13.toNatClampNeg) then (if ¬ (x_13 < 0 ∨ gRk ≤ x_13.toNatClampNeg) then some (1, x_4.2, upg gRG x_9.toNatClampNeg x_13.toNatClampNeg ((gRG x_9.toNatClampNeg x_13.toNatClampNeg) + r_30)) else none) else none) else none) else some (2, x_4.2, gRG)))) else none) else some (2, x_4.2, gRG)))))) else some (0, x_4.2, gRG))))
abbrev hX9_check : Cond := .code yX9_check cX9_check 5 (some .int)
theorem mX9_check : yM yX9_check hX9_check 0 := ⟨u_1495, u_64, by decide +kernel, by decide +kernel, by decide +kernel⟩
set_option maxHeartbeats 4000000 in
set_option maxRecDepth 100000 in
theorem kX9_check_i (l : Launch) (D : va_G) (cy : Nat → ClassId) (g : Nat) (gth : Int32) (gw : Nat) (gB : Nat) (gK : Nat) (gU : Nat) (gS : Nat) (gbe : Int32) (gwo : Int32) (gta : Int64) (glr : Int32) (glc : Int32) (gti : Int32) (ggo : Int32) (gR : Nat) (gch : Int32) (gD : Nat) (gRd : Nat → Nat) (gRn : Nat) (gRk : Nat) (gRG : Nat → Nat → Int32) {res : Int32 × Int32 × (Nat → Nat → Int32)} (hR : fX9_check_i gch gRn gRk gRG = some res) : YM l D cy yX9_check hX9_check 4 0 0 [.ref g] [[(g, .inr (11, [.int gth, .ref gw, .ref gB, .ref gK, .ref gU, .ref gS, .int gbe, .int gwo, .long gta, .null, .int glr, .int glc, .int gti, .int ggo, .ref gR, .int gch, .ref gD]))], [(gR, .inl (cy 3, gRn, .inr (.inr (.inr (.inr (yad gRd))))))], xg_rows gRd gRn (cy 1) gRk gRG] (fun v u => v = some (.int res.1) ∧ u = [[(g, .inr (11, [.int res.2.1, .ref gw, .ref gB, .ref gK, .ref gU, .ref gS, .int gbe, .int gwo, .long gta, .null, .int glr, .int glc, .int gti, .int ggo, .ref gR, .int gch, .ref gD]))], [(gR, .inl (cy 3, gRn, .inr (.inr (.inr (.inr (yad gRd))))))], xg_rows gRd gRn (cy 1) gRk res.2.2]) := by
  unfold fX9_check_i at hR
  refine YM.ofI (cc := cX9_check) (maxL := 5) (ret := (some .int)) (by decide +kernel) rfl (Nat.le_of_ble_eq_true rfl) [(0, .ref g)] rfl rfl (fun p e s m args below meth c A H0 Q C hnm ret => ?_)
  refine xr_aload_n (n := 1) (j := 0) C dX9_check_0 rfl rfl ?_
  refine xr_aload_n (n := 2) (j := 0) C dX9_check_1 rfl rfl ?_
  refine xr_get (n := 5) C 0 rfl rfl 14 (by decide) in_X9 u_1251 rfl (v := .ref gR) rfl dX9_check_2 rfl ?_
  refine xr_alen (n := 6) C 1 0 rfl 3 rfl rfl dX9_check_5 rfl ?_
  obtain ⟨r_3, hE_3, hR⟩ := yf_b hR
  have J_3 : X p l e (yR 4 0 0) s m args below meth c D A H0 5 Q [[(g, .inr (11, [.int gth, .ref gw, .ref gB, .ref gK, .ref gU, .ref gS, .int gbe, .int gwo, .long gta, .null, .int glr, .int glc, .int gti, .int ggo, .ref gR, .int gch, .ref gD]))], [(gR, .inl (cy 3, gRn, .inr (.inr (.inr (.inr (yad gRd))))))], xg_rows gRd gRn (cy 1) gRk gRG] 0 0 [(0, .ref g)] 21 [.int r_3, .ref g] := by
    refine xr_iconst (n := 22) (v := 1) C dX9_check_21 rfl rfl ?_
    obtain ⟨x_4, hx_4, hR⟩ := yf_b hR
    refine xr_callV (n := 25) (As := [.int r_3, .int 1]) (rest := []) C (kX9_start_i l D cy (g := g) (gth := gth) (gw := gw) (gB := gB) (gK := gK) (gU := gU) (gS := gS) (gbe := gbe) (gwo := gwo) (gta := gta) (glr := glr) (glc := glc) (gti := gti) (ggo := ggo) (gR := gR) (gch := gch) (gD := gD) (i1 := r_3) (i2 := 1) hx_4) mX9_start u_1301 u_1303 u_29 0 rfl rfl 3 [0] [1, 2] rfl (by decide +kernel) rfl rfl rfl rfl (Nat.le_of_ble_eq_true rfl) (Nat.le_of_ble_eq_true rfl) (Nat.le_of_ble_eq_true rfl) (Nat.le_of_ble_eq_true rfl) (Nat.le_of_ble_eq_true rfl) dX9_check_22 rfl (fun v_5 u_6 hp_7 => ?_)
    obtain ⟨rfl, rfl⟩ := hp_7
    refine xr_perm C 3 [0, 1, 2] [] [[(g, .inr (11, [.int x_4.2, .ref gw, .ref gB, .ref gK, .ref gU, .ref gS, .int gbe, .int gwo, .long gta, .null, .int glr, .int glc, .int gti, .int ggo, .ref gR, .int gch, .ref gD]))], [(gR, .inl (cy 3, gRn, .inr (.inr (.inr (.inr (yad gRd))))))], xg_rows gRd gRn (cy 1) gRk gRG] rfl (by decide +kernel) rfl ?_
    refine xr_st (st' := [.int x_4.1]) rfl ?_
    refine xr_if_eq (tgt := 30) (n := 28) C dX9_check_25 rfl rfl (fun c_8 => ?_) (fun c_8 => ?_)
    · replace hR := yf_t c_8 hR
      refine xr_aload_n (n := 31) (j := 0) C dX9_check_30 rfl rfl ?_
      refine xr_iconst (n := 32) (v := 1) C dX9_check_31 rfl rfl ?_
      obtain ⟨x_9, hx_9, hR⟩ := yf_b hR
      refine xr_callVp (n := 35) (As := [.int 1]) (rest := []) C (kX9_severalOr_i l D cy (g := g) (gth := x_4.2) (gw := gw) (gB := gB) (gK := gK) (gU := gU) (gS := gS) (gbe := gbe) (gwo := gwo) (gta := gta) (glr := glr) (glc := glc) (gti := gti) (ggo := ggo) (gR := gR) (gch := gch) (gD := gD) (gRd := gRd) (gRn := gRn) (gRk := gRk) (gRG := gRG) (i1 := 1) hx_9) mX9_severalOr u_1496 u_1498 u_46 0 rfl rfl 3 [0, 1, 2] [] rfl (by decide +kernel) rfl rfl rfl rfl (Nat.le_of_ble_eq_true rfl) (Nat.le_of_ble_eq_true rfl) (Nat.le_of_ble_eq_true rfl) (Nat.le_of_ble_eq_true rfl) (Nat.le_of_ble_eq_true rfl) dX9_check_32 rfl (fun _ _ hp => hp.2) (fun v_10 hp_12 => ?_)
      obtain ⟨rfl, -⟩ := hp_12
      refine xr_st (st' := [.int x_9]) rfl ?_
      refine xr_istore_n (n := 36) C [(1, .int x_9), (0, .ref g)] dX9_check_35 (by decide) rfl rfl ?_
      refine xr_aload_n (n := 37) (j := 1) C dX9_check_36 rfl rfl ?_
      refine xr_iconst (n := 38) (v := 0) C dX9_check_37 rfl rfl ?_
      obtain ⟨x_13, hx_13, hR⟩ := yf_b hR
      refine xr_callVp (n := 41) (As := [.int 0]) (rest := []) C (kX9_severalOr_i l D cy (g := g) (gth := x_4.2) (gw := gw) (gB := gB) (gK := gK) (gU := gU) (gS := gS) (gbe := gbe) (gwo := gwo) (gta := gta) (glr := glr) (glc := glc) (gti := gti) (ggo := ggo) (gR := gR) (gch := gch) (gD := gD) (gRd := gRd) (gRn := gRn) (gRk := gRk) (gRG := gRG) (i1 := 0) hx_13) mX9_severalOr u_1496 u_1498 u_46 0 rfl rfl 3 [0, 1, 2] [] rfl (by decide +kernel) rfl rfl rfl rfl (Nat.le_of_ble_eq_true rfl) (Nat.le_of_ble_eq_true rfl) (Nat.le_of_ble_eq_true rfl) (Nat.le_of_ble_eq_true rfl) (Nat.le_of_ble_eq_true rfl) dX9_check_38 rfl (fun _ _ hp => hp.2) (fun v_14 hp_16 => ?_)
      obtain ⟨rfl, -⟩ := hp_16
      refine xr_st (st' := [.int x_13]) rfl ?_
      refine xr_istore_n (n := 42) C [(2, .int x_13), (1, .int x_9), (0, .ref g)] dX9_check_41 (by decide) rfl rfl ?_
      refine xr_iload_n (n := 43) (j := 1) C dX9_check_42 rfl rfl ?_
      refine xr_iconst (n := 44) (v := -1) C dX9_check_43 rfl rfl ?_
      refine xr_icmp_ne (tgt := 54) (n := 47) C dX9_check_44 rfl rfl (fun c_17 => ?_) (fun c_17 => ?_)
      · replace hR := yf_f c_17 hR
        refine xr_iload_n (n := 55) (j := 1) C dX9_check_54 rfl rfl ?_
        refine xr_if_lt (tgt := 62) (n := 58) C dX9_check_55 rfl rfl (fun c_18 => ?_) (fun c_18 => ?_)
        · replace hR := yf_t c_18 hR
          refine xr_iconst (n := 63) (v := 2) C dX9_check_62 rfl rfl ?_
          obtain rfl := Option.some.inj hR
          exact ret 2 ⟨rfl, rfl⟩ (Nat.le_of_ble_eq_true rfl) (Nat.le_of_ble_eq_true rfl) dX9_check_63
        · replace hR := yf_f c_18 hR
          refine xr_iload_n (n := 59) (j := 0) C dX9_check_58 rfl rfl ?_
          refine xr_if_ge (tgt := 64) (n := 62) C dX9_check_59 rfl rfl (fun c_19 => ?_) (fun c_19 => ?_)
          · replace hR := yf_t c_19 hR
            refine xr_iload_n (n := 65) (j := 0) C dX9_check_64 rfl rfl ?_
            refine xr_aload_n (n := 66) (j := 2) C dX9_check_65 rfl rfl ?_
            refine xr_get (n := 69) C 0 rfl rfl 14 (by decide) in_X9 u_1251 rfl (v := .ref gR) rfl dX9_check_66 rfl ?_
            refine xr_iconst (n := 70) (v := 0) C dX9_check_69 rfl rfl ?_
            obtain ⟨g_20, hR⟩ := yf_g hR
            refine xr_aald (n := 71) C 1 0 rfl 3 rfl rfl g_20 rfl dX9_check_70 rfl ?_
            refine xr_aleng (n := 72) C 2 1 rfl ((0 : Int32).toNatClampNeg) (ylt g_20) rfl dX9_check_71 rfl ?_
            refine xr_iconst (n := 73) (v := 1) C dX9_check_72 rfl rfl ?_
            refine xr_isub (n := 74) C dX9_check_73 rfl ?_
            obtain ⟨r_30, hE_30, hR⟩ := yf_b hR
            have J_30 : X p l e (yR 4 0 0) s m args below meth c D A H0 5 Q [[(g, .inr (11, [.int x_4.2, .ref gw, .ref gB, .ref gK, .ref gU, .ref gS, .int gbe, .int gwo, .long gta, .null, .int glr, .int glc, .int gti, .int ggo, .ref gR, .int gch, .ref gD]))], [(gR, .inl (cy 3, gRn, .inr (.inr (.inr (.inr (yad gRd))))))], xg_rows gRd gRn (cy 1) gRk gRG] 0 0 [(0, .ref g), (1, .int x_9), (2, .int x_13)] 93 [.int r_30] := by
              refine xr_istore_n (n := 94) C [(3, .int r_30), (0, .ref g), (1, .int x_9), (2, .int x_13)] dX9_check_93 (by decide) rfl rfl ?_
              refine xr_iload_n (n := 95) (j := 2) C dX9_check_94 rfl rfl ?_
              refine xr_aload_n (n := 96) (j := 1) C dX9_check_95 rfl rfl ?_
              refine xr_get (n := 99) C 0 rfl rfl 14 (by decide) in_X9 u_1251 rfl (v := .ref gR) rfl dX9_check_96 rfl ?_
              refine xr_alen (n := 100) C 1 0 rfl 3 rfl rfl dX9_check_99 rfl ?_
              refine xr_iconst (n := 101) (v := 1) C dX9_check_100 rfl rfl ?_
              refine xr_isub (n := 102) C dX9_check_101 rfl ?_
              obtain ⟨r_40, hE_40, hR⟩ := yf_b hR
              have J_40 : X p l e (yR 4 0 0) s m args below meth c D A H0 5 Q [[(g, .inr (11, [.int x_4.2, .ref gw, .ref gB, .ref gK, .ref gU, .ref gS, .int gbe, .int gwo, .long gta, .null, .int glr, .int glc, .int gti, .int ggo, .ref gR, .int gch, .ref gD]))], [(gR, .inl (cy 3, gRn, .inr (.inr (.inr (.inr (yad gRd))))))], xg_rows gRd gRn (cy 1) gRk gRG] 0 0 [(0, .ref g), (1, .int x_9), (2, .int x_13), (3, .int r_30)] 121 [.int r_40] := by
                refine xr_istore (n := 123) C [(4, .int r_40), (0, .ref g), (1, .int x_9), (2, .int x_13), (3, .int r_30)] dX9_check_121 (by decide) rfl rfl ?_
                refine xr_iload_n (n := 124) (j := 4) C dX9_check_123 rfl rfl ?_
                refine xr_iload (n := 126) (j := 0) C dX9_check_124 rfl rfl ?_
                refine xr_icmp_eq (tgt := 131) (n := 129) C dX9_check_126 rfl rfl (fun c_41 => ?_) (fun c_41 => ?_)
                · replace hR := yf_t c_41 hR
                  refine xr_aload_n (n := 132) (j := 1) C dX9_check_131 rfl rfl ?_
                  refine xr_get (n := 135) C 0 rfl rfl 14 (by decide) in_X9 u_1251 rfl (v := .ref gR) rfl dX9_check_132 rfl ?_
                  refine xr_iload_n (n := 136) (j := 2) C dX9_check_135 rfl rfl ?_
                  obtain ⟨g_42, hR⟩ := yf_g hR
                  refine xr_aald (n := 137) C 1 0 rfl 3 rfl rfl g_42 rfl dX9_check_136 rfl ?_
                  refine xr_iload_n (n := 138) (j := 3) C dX9_check_137 rfl rfl ?_
                  refine xr_dup2 (n := 139) C dX9_check_138 rfl rfl rfl ?_
                  obtain ⟨g_43, hR⟩ := yf_g hR
                  refine xr_ialdg (n := 140) C 2 rfl x_9.toNatClampNeg (ylt g_42) g_43 dX9_check_139 rfl ?_
                  refine xr_iload_n (n := 141) (j := 4) C dX9_check_140 rfl rfl ?_
                  refine xr_iadd (n := 142) C dX9_check_141 rfl ?_
                  obtain ⟨g_44, hR⟩ := yf_g hR
                  refine xr_iastg (n := 143) C 2 rfl x_9.toNatClampNeg (ylt g_42) g_44 [[(g, .inr (11, [.int x_4.2, .ref gw, .ref gB, .ref gK, .ref gU, .ref gS, .int gbe, .int gwo, .long gta, .null, .int glr, .int glc, .int gti, .int ggo, .ref gR, .int gch, .ref gD]))], [(gR, .inl (cy 3, gRn, .inr (.inr (.inr (.inr (yad gRd))))))], xg_rows gRd gRn (cy 1) gRk (upg gRG x_9.toNatClampNeg x_13.toNatClampNeg ((gRG x_9.toNatClampNeg x_13.toNatClampNeg) + r_30))] rfl dX9_check_142 rfl ?_
                  refine xr_iconst (n := 144) (v := 1) C dX9_check_143 rfl rfl ?_
                  obtain rfl := Option.some.inj hR
                  exact ret 1 ⟨rfl, rfl⟩ (Nat.le_of_ble_eq_true rfl) (Nat.le_of_ble_eq_true rfl) dX9_check_144
                · replace hR := yf_f c_41 hR
                  refine xr_iconst (n := 130) (v := 2) C dX9_check_129 rfl rfl ?_
                  obtain rfl := Option.some.inj hR
                  exact ret 2 ⟨rfl, rfl⟩ (Nat.le_of_ble_eq_true rfl) (Nat.le_of_ble_eq_true rfl) dX9_check_130
              refine xr_icmp_ne (tgt := 115) (n := 105) C dX9_check_102 rfl rfl (fun c_45 => ?_) (fun c_45 => ?_)
              · replace hE_40 := yf_f c_45 hE_40
                refine xr_aload_n (n := 116) (j := 1) C dX9_check_115 rfl rfl ?_
                refine xr_iconst (n := 117) (v := 0) C dX9_check_116 rfl rfl ?_
                refine xr_iload_n (n := 118) (j := 3) C dX9_check_117 rfl rfl ?_
                obtain ⟨x_46, hx_46, hE_40⟩ := yf_b hE_40
                refine xr_callVp (n := 121) (As := [.int 0, .int x_13]) (rest := []) C (kX9_off_i l D cy (g := g) (gth := x_4.2) (gw := gw) (gB := gB) (gK := gK) (gU := gU) (gS := gS) (gbe := gbe) (gwo := gwo) (gta := gta) (glr := glr) (glc := glc) (gti := gti) (ggo := ggo) (gR := gR) (gch := gch) (gD := gD) (gRd := gRd) (gRn := gRn) (gRk := gRk) (gRG := gRG) (i1 := 0) (i2 := x_13) hx_46) mX9_off u_1500 u_1502 u_47 0 rfl rfl 3 [0, 1, 2] [] rfl (by decide +kernel) rfl rfl rfl rfl (Nat.le_of_ble_eq_true rfl) (Nat.le_of_ble_eq_true rfl) (Nat.le_of_ble_eq_true rfl) (Nat.le_of_ble_eq_true rfl) (Nat.le_of_ble_eq_true rfl) dX9_check_118 rfl (fun _ _ hp => hp.2) (fun v_47 hp_49 => ?_)
                obtain ⟨rfl, -⟩ := hp_49
                refine xr_st (st' := [.int x_46]) rfl ?_
                refine xr_lv (lv' := [(0, .ref g), (1, .int x_9), (2, .int x_13), (3, .int r_30)]) [1, 2, 3, 0] rfl ?_
                have e_50 := Option.some.inj hE_40
                subst e_50
                exact J_40
              · replace hE_40 := yf_t c_45 hE_40
                refine xr_aload_n (n := 106) (j := 1) C dX9_check_105 rfl rfl ?_
                refine xr_iconst (n := 107) (v := 0) C dX9_check_106 rfl rfl ?_
                refine xr_iload_n (n := 108) (j := 3) C dX9_check_107 rfl rfl ?_
                obtain ⟨x_51, hx_51, hE_40⟩ := yf_b hE_40
                refine xr_callVp (n := 111) (As := [.int 0, .int x_13]) (rest := []) C (kX9_off_i l D cy (g := g) (gth := x_4.2) (gw := gw) (gB := gB) (gK := gK) (gU := gU) (gS := gS) (gbe := gbe) (gwo := gwo) (gta := gta) (glr := glr) (glc := glc) (gti := gti) (ggo := ggo) (gR := gR) (gch := gch) (gD := gD) (gRd := gRd) (gRn := gRn) (gRk := gRk) (gRG := gRG) (i1 := 0) (i2 := x_13) hx_51) mX9_off u_1500 u_1502 u_47 0 rfl rfl 3 [0, 1, 2] [] rfl (by decide +kernel) rfl rfl rfl rfl (Nat.le_of_ble_eq_true rfl) (Nat.le_of_ble_eq_true rfl) (Nat.le_of_ble_eq_true rfl) (Nat.le_of_ble_eq_true rfl) (Nat.le_of_ble_eq_true rfl) dX9_check_108 rfl (fun _ _ hp => hp.2) (fun v_52 hp_54 => ?_)
                obtain ⟨rfl, -⟩ := hp_54
                refine xr_st (st' := [.int x_51]) rfl ?_
                refine xr_ineg (n := 112) C dX9_check_111 rfl ?_
                refine xr_goto (tgt := 121) C dX9_check_112 rfl ?_
                refine xr_lv (lv' := [(0, .ref g), (1, .int x_9), (2, .int x_13), (3, .int r_30)]) [1, 2, 3, 0] rfl ?_
                have e_55 := Option.some.inj hE_40
                subst e_55
                exact J_40
            refine xr_icmp_ne (tgt := 87) (n := 77) C dX9_check_74 rfl rfl (fun c_56 => ?_) (fun c_56 => ?_)
            · replace hE_30 := yf_f c_56 hE_30
              refine xr_aload_n (n := 88) (j := 2) C dX9_check_87 rfl rfl ?_
              refine xr_iconst (n := 89) (v := 1) C dX9_check_88 rfl rfl ?_
              refine xr_iload_n (n := 90) (j := 1) C dX9_check_89 rfl rfl ?_
              obtain ⟨x_57, hx_57, hE_30⟩ := yf_b hE_30
              refine xr_callVp (n := 93) (As := [.int 1, .int x_9]) (rest := []) C (kX9_off_i l D cy (g := g) (gth := x_4.2) (gw := gw) (gB := gB) (gK := gK) (gU := gU) (gS := gS) (gbe := gbe) (gwo := gwo) (gta := gta) (glr := glr) (glc := glc) (gti := gti) (ggo := ggo) (gR := gR) (gch := gch) (gD := gD) (gRd := gRd) (gRn := gRn) (gRk := gRk) (gRG := gRG) (i1 := 1) (i2 := x_9) hx_57) mX9_off u_1500 u_1502 u_47 0 rfl rfl 3 [0, 1, 2] [] rfl (by decide +kernel) rfl rfl rfl rfl (Nat.le_of_ble_eq_true rfl) (Nat.le_of_ble_eq_true rfl) (Nat.le_of_ble_eq_true rfl) (Nat.le_of_ble_eq_true rfl) (Nat.le_of_ble_eq_true rfl) dX9_check_90 rfl (fun _ _ hp => hp.2) (fun v_58 hp_60 => ?_)
              obtain ⟨rfl, -⟩ := hp_60
              refine xr_st (st' := [.int x_57]) rfl ?_
              refine xr_lv (lv' := [(0, .ref g), (1, .int x_9), (2, .int x_13)]) [2, 1, 0] rfl ?_
              have e_61 := Option.some.inj hE_30
              subst e_61
              exact J_30
            · replace hE_30 := yf_t c_56 hE_30
              refine xr_aload_n (n := 78) (j := 2) C dX9_check_77 rfl rfl ?_
              refine xr_iconst (n := 79) (v := 1) C dX9_check_78 rfl rfl ?_
              refine xr_iload_n (n := 80) (j := 1) C dX9_check_79 rfl rfl ?_
              obtain ⟨x_62, hx_62, hE_30⟩ := yf_b hE_30
              refine xr_callVp (n := 83) (As := [.int 1, .int x_9]) (rest := []) C (kX9_off_i l D cy (g := g) (gth := x_4.2) (gw := gw) (gB := gB) (gK := gK) (gU := gU) (gS := gS) (gbe := gbe) (gwo := gwo) (gta := gta) (glr := glr) (glc := glc) (gti := gti) (ggo := ggo) (gR := gR) (gch := gch) (gD := gD) (gRd := gRd) (gRn := gRn) (gRk := gRk) (gRG := gRG) (i1 := 1) (i2 := x_9) hx_62) mX9_off u_1500 u_1502 u_47 0 rfl rfl 3 [0, 1, 2] [] rfl (by decide +kernel) rfl rfl rfl rfl (Nat.le_of_ble_eq_true rfl) (Nat.le_of_ble_eq_true rfl) (Nat.le_of_ble_eq_true rfl) (Nat.le_of_ble_eq_true rfl) (Nat.le_of_ble_eq_true rfl) dX9_check_80 rfl (fun _ _ hp => hp.2) (fun v_63 hp_65 => ?_)
              obtain ⟨rfl, -⟩ := hp_65
              refine xr_st (st' := [.int x_62]) rfl ?_
              refine xr_ineg (n := 84) C dX9_check_83 rfl ?_
              refine xr_goto (tgt := 93) C dX9_check_84 rfl ?_
              refine xr_lv (lv' := [(0, .ref g), (1, .int x_9), (2, .int x_13)]) [2, 1, 0] rfl ?_
              have e_66 := Option.some.inj hE_30
              subst e_66
              exact J_30
          · replace hR := yf_f c_19 hR
            refine xr_iconst (n := 63) (v := 2) C dX9_check_62 rfl rfl ?_
            obtain rfl := Option.some.inj hR
            exact ret 2 ⟨rfl, rfl⟩ (Nat.le_of_ble_eq_true rfl) (Nat.le_of_ble_eq_true rfl) dX9_check_63
      · replace hR := yf_t c_17 hR
        refine xr_iload_n (n := 48) (j := 0) C dX9_check_47 rfl rfl ?_
        refine xr_iconst (n := 49) (v := -1) C dX9_check_48 rfl rfl ?_
        refine xr_icmp_ne (tgt := 54) (n := 52) C dX9_check_49 rfl rfl (fun c_67 => ?_) (fun c_67 => ?_)
        · replace hR := yf_f c_67 hR
          refine xr_iload_n (n := 55) (j := 1) C dX9_check_54 rfl rfl ?_
          refine xr_if_lt (tgt := 62) (n := 58) C dX9_check_55 rfl rfl (fun c_68 => ?_) (fun c_68 => ?_)
          · replace hR := yf_t c_68 hR
            refine xr_iconst (n := 63) (v := 2) C dX9_check_62 rfl rfl ?_
            obtain rfl := Option.some.inj hR
            exact ret 2 ⟨rfl, rfl⟩ (Nat.le_of_ble_eq_true rfl) (Nat.le_of_ble_eq_true rfl) dX9_check_63
          · replace hR := yf_f c_68 hR
            refine xr_iload_n (n := 59) (j := 0) C dX9_check_58 rfl rfl ?_
            refine xr_if_ge (tgt := 64) (n := 62) C dX9_check_59 rfl rfl (fun c_69 => ?_) (fun c_69 => ?_)
            · replace hR := yf_t c_69 hR
              refine xr_iload_n (n := 65) (j := 0) C dX9_check_64 rfl rfl ?_
              refine xr_aload_n (n := 66) (j := 2) C dX9_check_65 rfl rfl ?_
              refine xr_get (n := 69) C 0 rfl rfl 14 (by decide) in_X9 u_1251 rfl (v := .ref gR) rfl dX9_check_66 rfl ?_
              refine xr_iconst (n := 70) (v := 0) C dX9_check_69 rfl rfl ?_
              obtain ⟨g_70, hR⟩ := yf_g hR
              refine xr_aald (n := 71) C 1 0 rfl 3 rfl rfl g_70 rfl dX9_check_70 rfl ?_
              refine xr_aleng (n := 72) C 2 1 rfl ((0 : Int32).toNatClampNeg) (ylt g_70) rfl dX9_check_71 rfl ?_
              refine xr_iconst (n := 73) (v := 1) C dX9_check_72 rfl rfl ?_
              refine xr_isub (n := 74) C dX9_check_73 rfl ?_
              obtain ⟨r_80, hE_80, hR⟩ := yf_b hR
              have J_80 : X p l e (yR 4 0 0) s m args below meth c D A H0 5 Q [[(g, .inr (11, [.int x_4.2, .ref gw, .ref gB, .ref gK, .ref gU, .ref gS, .int gbe, .int gwo, .long gta, .null, .int glr, .int glc, .int gti, .int ggo, .ref gR, .int gch, .ref gD]))], [(gR, .inl (cy 3, gRn, .inr (.inr (.inr (.inr (yad gRd))))))], xg_rows gRd gRn (cy 1) gRk gRG] 0 0 [(0, .ref g), (1, .int x_9), (2, .int x_13)] 93 [.int r_80] := by
                refine xr_istore_n (n := 94) C [(3, .int r_80), (0, .ref g), (1, .int x_9), (2, .int x_13)] dX9_check_93 (by decide) rfl rfl ?_
                refine xr_iload_n (n := 95) (j := 2) C dX9_check_94 rfl rfl ?_
                refine xr_aload_n (n := 96) (j := 1) C dX9_check_95 rfl rfl ?_
                refine xr_get (n := 99) C 0 rfl rfl 14 (by decide) in_X9 u_1251 rfl (v := .ref gR) rfl dX9_check_96 rfl ?_
                refine xr_alen (n := 100) C 1 0 rfl 3 rfl rfl dX9_check_99 rfl ?_
                refine xr_iconst (n := 101) (v := 1) C dX9_check_100 rfl rfl ?_
                refine xr_isub (n := 102) C dX9_check_101 rfl ?_
                obtain ⟨r_90, hE_90, hR⟩ := yf_b hR
                have J_90 : X p l e (yR 4 0 0) s m args below meth c D A H0 5 Q [[(g, .inr (11, [.int x_4.2, .ref gw, .ref gB, .ref gK, .ref gU, .ref gS, .int gbe, .int gwo, .long gta, .null, .int glr, .int glc, .int gti, .int ggo, .ref gR, .int gch, .ref gD]))], [(gR, .inl (cy 3, gRn, .inr (.inr (.inr (.inr (yad gRd))))))], xg_rows gRd gRn (cy 1) gRk gRG] 0 0 [(0, .ref g), (1, .int x_9), (2, .int x_13), (3, .int r_80)] 121 [.int r_90] := by
                  refine xr_istore (n := 123) C [(4, .int r_90), (0, .ref g), (1, .int x_9), (2, .int x_13), (3, .int r_80)] dX9_check_121 (by decide) rfl rfl ?_
                  refine xr_iload_n (n := 124) (j := 4) C dX9_check_123 rfl rfl ?_
                  refine xr_iload (n := 126) (j := 0) C dX9_check_124 rfl rfl ?_
                  refine xr_icmp_eq (tgt := 131) (n := 129) C dX9_check_126 rfl rfl (fun c_91 => ?_) (fun c_91 => ?_)
                  · replace hR := yf_t c_91 hR
                    refine xr_aload_n (n := 132) (j := 1) C dX9_check_131 rfl rfl ?_
                    refine xr_get (n := 135) C 0 rfl rfl 14 (by decide) in_X9 u_1251 rfl (v := .ref gR) rfl dX9_check_132 rfl ?_
                    refine xr_iload_n (n := 136) (j := 2) C dX9_check_135 rfl rfl ?_
                    obtain ⟨g_92, hR⟩ := yf_g hR
                    refine xr_aald (n := 137) C 1 0 rfl 3 rfl rfl g_92 rfl dX9_check_136 rfl ?_
                    refine xr_iload_n (n := 138) (j := 3) C dX9_check_137 rfl rfl ?_
                    refine xr_dup2 (n := 139) C dX9_check_138 rfl rfl rfl ?_
                    obtain ⟨g_93, hR⟩ := yf_g hR
                    refine xr_ialdg (n := 140) C 2 rfl x_9.toNatClampNeg (ylt g_92) g_93 dX9_check_139 rfl ?_
                    refine xr_iload_n (n := 141) (j := 4) C dX9_check_140 rfl rfl ?_
                    refine xr_iadd (n := 142) C dX9_check_141 rfl ?_
                    obtain ⟨g_94, hR⟩ := yf_g hR
                    refine xr_iastg (n := 143) C 2 rfl x_9.toNatClampNeg (ylt g_92) g_94 [[(g, .inr (11, [.int x_4.2, .ref gw, .ref gB, .ref gK, .ref gU, .ref gS, .int gbe, .int gwo, .long gta, .null, .int glr, .int glc, .int gti, .int ggo, .ref gR, .int gch, .ref gD]))], [(gR, .inl (cy 3, gRn, .inr (.inr (.inr (.inr (yad gRd))))))], xg_rows gRd gRn (cy 1) gRk (upg gRG x_9.toNatClampNeg x_13.toNatClampNeg ((gRG x_9.toNatClampNeg x_13.toNatClampNeg) + r_80))] rfl dX9_check_142 rfl ?_
                    refine xr_iconst (n := 144) (v := 1) C dX9_check_143 rfl rfl ?_
                    obtain rfl := Option.some.inj hR
                    exact ret 1 ⟨rfl, rfl⟩ (Nat.le_of_ble_eq_true rfl) (Nat.le_of_ble_eq_true rfl) dX9_check_144
                  · replace hR := yf_f c_91 hR
                    refine xr_iconst (n := 130) (v := 2) C dX9_check_129 rfl rfl ?_
                    obtain rfl := Option.some.inj hR
                    exact ret 2 ⟨rfl, rfl⟩ (Nat.le_of_ble_eq_true rfl) (Nat.le_of_ble_eq_true rfl) dX9_check_130
                refine xr_icmp_ne (tgt := 115) (n := 105) C dX9_check_102 rfl rfl (fun c_95 => ?_) (fun c_95 => ?_)
                · replace hE_90 := yf_f c_95 hE_90
                  refine xr_aload_n (n := 116) (j := 1) C dX9_check_115 rfl rfl ?_
                  refine xr_iconst (n := 117) (v := 0) C dX9_check_116 rfl rfl ?_
                  refine xr_iload_n (n := 118) (j := 3) C dX9_check_117 rfl rfl ?_
                  obtain ⟨x_96, hx_96, hE_90⟩ := yf_b hE_90
                  refine xr_callVp (n := 121) (As := [.int 0, .int x_13]) (rest := []) C (kX9_off_i l D cy (g := g) (gth := x_4.2) (gw := gw) (gB := gB) (gK := gK) (gU := gU) (gS := gS) (gbe := gbe) (gwo := gwo) (gta := gta) (glr := glr) (glc := glc) (gti := gti) (ggo := ggo) (gR := gR) (gch := gch) (gD := gD) (gRd := gRd) (gRn := gRn) (gRk := gRk) (gRG := gRG) (i1 := 0) (i2 := x_13) hx_96) mX9_off u_1500 u_1502 u_47 0 rfl rfl 3 [0, 1, 2] [] rfl (by decide +kernel) rfl rfl rfl rfl (Nat.le_of_ble_eq_true rfl) (Nat.le_of_ble_eq_true rfl) (Nat.le_of_ble_eq_true rfl) (Nat.le_of_ble_eq_true rfl) (Nat.le_of_ble_eq_true rfl) dX9_check_118 rfl (fun _ _ hp => hp.2) (fun v_97 hp_99 => ?_)
                  obtain ⟨rfl, -⟩ := hp_99
                  refine xr_st (st' := [.int x_96]) rfl ?_
                  refine xr_lv (lv' := [(0, .ref g), (1, .int x_9), (2, .int x_13), (3, .int r_80)]) [1, 2, 3, 0] rfl ?_
                  have e_100 := Option.some.inj hE_90
                  subst e_100
                  exact J_90
                · replace hE_90 := yf_t c_95 hE_90
                  refine xr_aload_n (n := 106) (j := 1) C dX9_check_105 rfl rfl ?_
                  refine xr_iconst (n := 107) (v := 0) C dX9_check_106 rfl rfl ?_
                  refine xr_iload_n (n := 108) (j := 3) C dX9_check_107 rfl rfl ?_
                  obtain ⟨x_101, hx_101, hE_90⟩ := yf_b hE_90
                  refine xr_callVp (n := 111) (As := [.int 0, .int x_13]) (rest := []) C (kX9_off_i l D cy (g := g) (gth := x_4.2) (gw := gw) (gB := gB) (gK := gK) (gU := gU) (gS := gS) (gbe := gbe) (gwo := gwo) (gta := gta) (glr := glr) (glc := glc) (gti := gti) (ggo := ggo) (gR := gR) (gch := gch) (gD := gD) (gRd := gRd) (gRn := gRn) (gRk := gRk) (gRG := gRG) (i1 := 0) (i2 := x_13) hx_101) mX9_off u_1500 u_1502 u_47 0 rfl rfl 3 [0, 1, 2] [] rfl (by decide +kernel) rfl rfl rfl rfl (Nat.le_of_ble_eq_true rfl) (Nat.le_of_ble_eq_true rfl) (Nat.le_of_ble_eq_true rfl) (Nat.le_of_ble_eq_true rfl) (Nat.le_of_ble_eq_true rfl) dX9_check_108 rfl (fun _ _ hp => hp.2) (fun v_102 hp_104 => ?_)
                  obtain ⟨rfl, -⟩ := hp_104
                  refine xr_st (st' := [.int x_101]) rfl ?_
                  refine xr_ineg (n := 112) C dX9_check_111 rfl ?_
                  refine xr_goto (tgt := 121) C dX9_check_112 rfl ?_
                  refine xr_lv (lv' := [(0, .ref g), (1, .int x_9), (2, .int x_13), (3, .int r_80)]) [1, 2, 3, 0] rfl ?_
                  have e_105 := Option.some.inj hE_90
                  subst e_105
                  exact J_90
              refine xr_icmp_ne (tgt := 87) (n := 77) C dX9_check_74 rfl rfl (fun c_106 => ?_) (fun c_106 => ?_)
              · replace hE_80 := yf_f c_106 hE_80
                refine xr_aload_n (n := 88) (j := 2) C dX9_check_87 rfl rfl ?_
                refine xr_iconst (n := 89) (v := 1) C dX9_check_88 rfl rfl ?_
                refine xr_iload_n (n := 90) (j := 1) C dX9_check_89 rfl rfl ?_
                obtain ⟨x_107, hx_107, hE_80⟩ := yf_b hE_80
                refine xr_callVp (n := 93) (As := [.int 1, .int x_9]) (rest := []) C (kX9_off_i l D cy (g := g) (gth := x_4.2) (gw := gw) (gB := gB) (gK := gK) (gU := gU) (gS := gS) (gbe := gbe) (gwo := gwo) (gta := gta) (glr := glr) (glc := glc) (gti := gti) (ggo := ggo) (gR := gR) (gch := gch) (gD := gD) (gRd := gRd) (gRn := gRn) (gRk := gRk) (gRG := gRG) (i1 := 1) (i2 := x_9) hx_107) mX9_off u_1500 u_1502 u_47 0 rfl rfl 3 [0, 1, 2] [] rfl (by decide +kernel) rfl rfl rfl rfl (Nat.le_of_ble_eq_true rfl) (Nat.le_of_ble_eq_true rfl) (Nat.le_of_ble_eq_true rfl) (Nat.le_of_ble_eq_true rfl) (Nat.le_of_ble_eq_true rfl) dX9_check_90 rfl (fun _ _ hp => hp.2) (fun v_108 hp_110 => ?_)
                obtain ⟨rfl, -⟩ := hp_110
                refine xr_st (st' := [.int x_107]) rfl ?_
                refine xr_lv (lv' := [(0, .ref g), (1, .int x_9), (2, .int x_13)]) [2, 1, 0] rfl ?_
                have e_111 := Option.some.inj hE_80
                subst e_111
                exact J_80
              · replace hE_80 := yf_t c_106 hE_80
                refine xr_aload_n (n := 78) (j := 2) C dX9_check_77 rfl rfl ?_
                refine xr_iconst (n := 79) (v := 1) C dX9_check_78 rfl rfl ?_
                refine xr_iload_n (n := 80) (j := 1) C dX9_check_79 rfl rfl ?_
                obtain ⟨x_112, hx_112, hE_80⟩ := yf_b hE_80
                refine xr_callVp (n := 83) (As := [.int 1, .int x_9]) (rest := []) C (kX9_off_i l D cy (g := g) (gth := x_4.2) (gw := gw) (gB := gB) (gK := gK) (gU := gU) (gS := gS) (gbe := gbe) (gwo := gwo) (gta := gta) (glr := glr) (glc := glc) (gti := gti) (ggo := ggo) (gR := gR) (gch := gch) (gD := gD) (gRd := gRd) (gRn := gRn) (gRk := gRk) (gRG := gRG) (i1 := 1) (i2 := x_9) hx_112) mX9_off u_1500 u_1502 u_47 0 rfl rfl 3 [0, 1, 2] [] rfl (by decide +kernel) rfl rfl rfl rfl (Nat.le_of_ble_eq_true rfl) (Nat.le_of_ble_eq_true rfl) (Nat.le_of_ble_eq_true rfl) (Nat.le_of_ble_eq_true rfl) (Nat.le_of_ble_eq_true rfl) dX9_check_80 rfl (fun _ _ hp => hp.2) (fun v_113 hp_115 => ?_)
                obtain ⟨rfl, -⟩ := hp_115
                refine xr_st (st' := [.int x_112]) rfl ?_
                refine xr_ineg (n := 84) C dX9_check_83 rfl ?_
                refine xr_goto (tgt := 93) C dX9_check_84 rfl ?_
                refine xr_lv (lv' := [(0, .ref g), (1, .int x_9), (2, .int x_13)]) [2, 1, 0] rfl ?_
                have e_116 := Option.some.inj hE_80
                subst e_116
                exact J_80
            · replace hR := yf_f c_69 hR
              refine xr_iconst (n := 63) (v := 2) C dX9_check_62 rfl rfl ?_
              obtain rfl := Option.some.inj hR
              exact ret 2 ⟨rfl, rfl⟩ (Nat.le_of_ble_eq_true rfl) (Nat.le_of_ble_eq_true rfl) dX9_check_63
        · replace hR := yf_t c_67 hR
          refine xr_iconst (n := 53) (v := 0) C dX9_check_52 rfl rfl ?_
          obtain rfl := Option.some.inj hR
          exact ret 0 ⟨rfl, rfl⟩ (Nat.le_of_ble_eq_true rfl) (Nat.le_of_ble_eq_true rfl) dX9_check_53
    · replace hR := yf_f c_8 hR
      refine xr_iconst (n := 29) (v := 0) C dX9_check_28 rfl rfl ?_
      obtain rfl := Option.some.inj hR
      exact ret 0 ⟨rfl, rfl⟩ (Nat.le_of_ble_eq_true rfl) (Nat.le_of_ble_eq_true rfl) dX9_check_29
  refine xr_if_eq (tgt := 16) (n := 9) C dX9_check_6 rfl rfl (fun c_117 => ?_) (fun c_117 => ?_)
  · replace hE_3 := yf_t c_117 hE_3
    refine xr_iconst (n := 17) (v := 1) C dX9_check_16 rfl rfl ?_
    refine xr_goto (tgt := 21) C dX9_check_17 rfl ?_
    have e_118 := Option.some.inj hE_3
    subst e_118
    exact J_3
  · replace hE_3 := yf_f c_117 hE_3
    refine xr_aload_n (n := 10) (j := 0) C dX9_check_9 rfl rfl ?_
    refine xr_get (n := 13) C 0 rfl rfl 15 (by decide) in_X9 u_1252 rfl (v := .int gch) rfl dX9_check_10 rfl ?_
    refine xr_if_ne (tgt := 20) (n := 16) C dX9_check_13 rfl rfl (fun c_119 => ?_) (fun c_119 => ?_)
    · replace hE_3 := yf_f c_119 hE_3
      refine xr_iconst (n := 21) (v := 0) C dX9_check_20 rfl rfl ?_
      have e_120 := Option.some.inj hE_3
      subst e_120
      exact J_3
    · replace hE_3 := yf_t c_119 hE_3
      refine xr_iconst (n := 17) (v := 1) C dX9_check_16 rfl rfl ?_
      refine xr_goto (tgt := 21) C dX9_check_17 rfl ?_
      have e_121 := Option.some.inj hE_3
      subst e_121
      exact J_3
def fX9_check_r (gch : Int32) (gRn : Nat) (gRk : Nat) (gRG : Nat → Nat → Int32) : Option (Int32 × Int32 × (Nat → Nat → Int32)) := ((((if (nI gRn) = 0 then some 1 else (if gch = 0 then some 1 else some 0)) : Option (Int32))).bind fun r_3 => ((fX9_start_r r_3 1).bind fun x_4 => (if x_4.1 = 0 then ((fX9_severalOr_r gRn gRk gRG 1).bind fun x_9 => ((fX9_severalOr_r gRn gRk gRG 0).bind fun x_13 => (if x_9 = (-1) then (if x_13 = (-1) then some (0, x_4.2, gRG) else (if x_9 < 0 then some (2, x_4.2, gRG) else (if 0 ≤ x_13 then (if ¬ ((0 : Int32) < 0 ∨ gRn ≤ (0 : Int32).toNatClampNeg) then ((((if x_13 = ((nI gRk) - 1) then ((fX9_off_r gRn gRk gRG 1 x_9).bind fun x_112 => some (-x_112)) else ((fX9_off_r gRn gRk gRG 1 x_9).bind fun x_107 => some x_107)) : Option (Int32))).bind fun r_80 => ((((if x_9 = ((nI gRn) - 1) then ((fX9_off_r gRn gRk gRG 0 x_13).bind fun x_101 => some (-x_101)) else ((fX9_off_r gRn gRk gRG 0 x_13).bind fun x_96 => some x_96)) : Option (Int32))).bind fun r_90 => (if r_80 = r_90 then (if ¬ (x_9 < 0 ∨ gRn ≤ x_9.toNatClampNeg) then (if ¬ (x_13 < 0 ∨ gRk ≤ x_13.toNatClampNeg) then (if ¬ (x_13 < 0 ∨ gRk ≤ x_13.toNatClampNeg) then some (1, x_4.2, upg gRG x_9.toNatClampNeg x_13.toNatClampNeg ((gRG x_9.toNatClampNeg x_13.toNatClampNeg) + r_80)) else none) else none) else none) else some (2, x_4.2, gRG)))) else none) else some (2, x_4.2, gRG)))) else (if x_9 < 0 then some (2, x_4.2, gRG) else (if 0 ≤ x_13 then (if ¬ ((0 : Int32) < 0 ∨ gRn ≤ (0 : Int32).toNatClampNeg) then ((((if x_13 = ((nI gRk) - 1) then ((fX9_off_r gRn gRk gRG 1 x_9).bind fun x_62 => some (-x_62)) else ((fX9_off_r gRn gRk gRG 1 x_9).bind fun x_57 => some x_57)) : Option (Int32))).bind fun r_30 => ((((if x_9 = ((nI gRn) - 1) then ((fX9_off_r gRn gRk gRG 0 x_13).bind fun x_51 => some (-x_51)) else ((fX9_off_r gRn gRk gRG 0 x_13).bind fun x_46 => some x_46)) : Option (Int32))).bind fun r_40 => (if r_30 = r_40 then (if ¬ (x_9 < 0 ∨ gRn ≤ x_9.toNatClampNeg) then (if ¬ (x_13 < 0 ∨ gRk ≤ x_13.toNatClampNeg) then (if ¬ (x_13 < 0 ∨ gRk ≤ x_13.toNatClampNeg) then some (1, x_4.2, upg gRG x_9.toNatClampNeg x_13.toNatClampNeg ((gRG x_9.toNatClampNeg x_13.toNatClampNeg) + r_30)) else none) else none) else none) else some (2, x_4.2, gRG)))) else none) else some (2, x_4.2, gRG)))))) else some (0, x_4.2, gRG))))
set_option maxHeartbeats 4000000 in
set_option maxRecDepth 100000 in
theorem kX9_check_r (l : Launch) (D : va_G) (cy : Nat → ClassId) (g : Nat) (gth : Int32) (gw : Nat) (gB : Nat) (gK : Nat) (gU : Nat) (gS : Nat) (gbe : Int32) (gwo : Int32) (gta : Int64) (gn : Nat) (glr : Int32) (glc : Int32) (gti : Int32) (ggo : Int32) (gR : Nat) (gch : Int32) (gD : Nat) (gRd : Nat → Nat) (gRn : Nat) (gRk : Nat) (gRG : Nat → Nat → Int32) {res : Int32 × Int32 × (Nat → Nat → Int32)} (hR : fX9_check_r gch gRn gRk gRG = some res) : YM l D cy yX9_check hX9_check 4 0 0 [.ref g] [[(g, .inr (11, [.int gth, .ref gw, .ref gB, .ref gK, .ref gU, .ref gS, .int gbe, .int gwo, .long gta, .ref gn, .int glr, .int glc, .int gti, .int ggo, .ref gR, .int gch, .ref gD]))], [(gR, .inl (cy 3, gRn, .inr (.inr (.inr (.inr (yad gRd))))))], xg_rows gRd gRn (cy 1) gRk gRG] (fun v u => v = some (.int res.1) ∧ u = [[(g, .inr (11, [.int res.2.1, .ref gw, .ref gB, .ref gK, .ref gU, .ref gS, .int gbe, .int gwo, .long gta, .ref gn, .int glr, .int glc, .int gti, .int ggo, .ref gR, .int gch, .ref gD]))], [(gR, .inl (cy 3, gRn, .inr (.inr (.inr (.inr (yad gRd))))))], xg_rows gRd gRn (cy 1) gRk res.2.2]) := by
  unfold fX9_check_r at hR
  refine YM.ofI (cc := cX9_check) (maxL := 5) (ret := (some .int)) (by decide +kernel) rfl (Nat.le_of_ble_eq_true rfl) [(0, .ref g)] rfl rfl (fun p e s m args below meth c A H0 Q C hnm ret => ?_)
  refine xr_aload_n (n := 1) (j := 0) C dX9_check_0 rfl rfl ?_
  refine xr_aload_n (n := 2) (j := 0) C dX9_check_1 rfl rfl ?_
  refine xr_get (n := 5) C 0 rfl rfl 14 (by decide) in_X9 u_1251 rfl (v := .ref gR) rfl dX9_check_2 rfl ?_
  refine xr_alen (n := 6) C 1 0 rfl 3 rfl rfl dX9_check_5 rfl ?_
  obtain ⟨r_3, hE_3, hR⟩ := yf_b hR
  have J_3 : X p l e (yR 4 0 0) s m args below meth c D A H0 5 Q [[(g, .inr (11, [.int gth, .ref gw, .ref gB, .ref gK, .ref gU, .ref gS, .int gbe, .int gwo, .long gta, .ref gn, .int glr, .int glc, .int gti, .int ggo, .ref gR, .int gch, .ref gD]))], [(gR, .inl (cy 3, gRn, .inr (.inr (.inr (.inr (yad gRd))))))], xg_rows gRd gRn (cy 1) gRk gRG] 0 0 [(0, .ref g)] 21 [.int r_3, .ref g] := by
    refine xr_iconst (n := 22) (v := 1) C dX9_check_21 rfl rfl ?_
    obtain ⟨x_4, hx_4, hR⟩ := yf_b hR
    refine xr_callV (n := 25) (As := [.int r_3, .int 1]) (rest := []) C (kX9_start_r l D cy (g := g) (gth := gth) (gw := gw) (gB := gB) (gK := gK) (gU := gU) (gS := gS) (gbe := gbe) (gwo := gwo) (gta := gta) (gn := gn) (glr := glr) (glc := glc) (gti := gti) (ggo := ggo) (gR := gR) (gch := gch) (gD := gD) (i1 := r_3) (i2 := 1) hx_4) mX9_start u_1301 u_1303 u_29 0 rfl rfl 3 [0] [1, 2] rfl (by decide +kernel) rfl rfl rfl rfl (Nat.le_of_ble_eq_true rfl) (Nat.le_of_ble_eq_true rfl) (Nat.le_of_ble_eq_true rfl) (Nat.le_of_ble_eq_true rfl) (Nat.le_of_ble_eq_true rfl) dX9_check_22 rfl (fun v_5 u_6 hp_7 => ?_)
    obtain ⟨rfl, rfl⟩ := hp_7
    refine xr_perm C 3 [0, 1, 2] [] [[(g, .inr (11, [.int x_4.2, .ref gw, .ref gB, .ref gK, .ref gU, .ref gS, .int gbe, .int gwo, .long gta, .ref gn, .int glr, .int glc, .int gti, .int ggo, .ref gR, .int gch, .ref gD]))], [(gR, .inl (cy 3, gRn, .inr (.inr (.inr (.inr (yad gRd))))))], xg_rows gRd gRn (cy 1) gRk gRG] rfl (by decide +kernel) rfl ?_
    refine xr_st (st' := [.int x_4.1]) rfl ?_
    refine xr_if_eq (tgt := 30) (n := 28) C dX9_check_25 rfl rfl (fun c_8 => ?_) (fun c_8 => ?_)
    · replace hR := yf_t c_8 hR
      refine xr_aload_n (n := 31) (j := 0) C dX9_check_30 rfl rfl ?_
      refine xr_iconst (n := 32) (v := 1) C dX9_check_31 rfl rfl ?_
      obtain ⟨x_9, hx_9, hR⟩ := yf_b hR
      refine xr_callVp (n := 35) (As := [.int 1]) (rest := []) C (kX9_severalOr_r l D cy (g := g) (gth := x_4.2) (gw := gw) (gB := gB) (gK := gK) (gU := gU) (gS := gS) (gbe := gbe) (gwo := gwo) (gta := gta) (gn := gn) (glr := glr) (glc := glc) (gti := gti) (ggo := ggo) (gR := gR) (gch := gch) (gD := gD) (gRd := gRd) (gRn := gRn) (gRk := gRk) (gRG := gRG) (i1 := 1) hx_9) mX9_severalOr u_1496 u_1498 u_46 0 rfl rfl 3 [0, 1, 2] [] rfl (by decide +kernel) rfl rfl rfl rfl (Nat.le_of_ble_eq_true rfl) (Nat.le_of_ble_eq_true rfl) (Nat.le_of_ble_eq_true rfl) (Nat.le_of_ble_eq_true rfl) (Nat.le_of_ble_eq_true rfl) dX9_check_32 rfl (fun _ _ hp => hp.2) (fun v_10 hp_12 => ?_)
      obtain ⟨rfl, -⟩ := hp_12
      refine xr_st (st' := [.int x_9]) rfl ?_
      refine xr_istore_n (n := 36) C [(1, .int x_9), (0, .ref g)] dX9_check_35 (by decide) rfl rfl ?_
      refine xr_aload_n (n := 37) (j := 1) C dX9_check_36 rfl rfl ?_
      refine xr_iconst (n := 38) (v := 0) C dX9_check_37 rfl rfl ?_
      obtain ⟨x_13, hx_13, hR⟩ := yf_b hR
      refine xr_callVp (n := 41) (As := [.int 0]) (rest := []) C (kX9_severalOr_r l D cy (g := g) (gth := x_4.2) (gw := gw) (gB := gB) (gK := gK) (gU := gU) (gS := gS) (gbe := gbe) (gwo := gwo) (gta := gta) (gn := gn) (glr := glr) (glc := glc) (gti := gti) (ggo := ggo) (gR := gR) (gch := gch) (gD := gD) (gRd := gRd) (gRn := gRn) (gRk := gRk) (gRG := gRG) (i1 := 0) hx_13) mX9_severalOr u_1496 u_1498 u_46 0 rfl rfl 3 [0, 1, 2] [] rfl (by decide +kernel) rfl rfl rfl rfl (Nat.le_of_ble_eq_true rfl) (Nat.le_of_ble_eq_true rfl) (Nat.le_of_ble_eq_true rfl) (Nat.le_of_ble_eq_true rfl) (Nat.le_of_ble_eq_true rfl) dX9_check_38 rfl (fun _ _ hp => hp.2) (fun v_14 hp_16 => ?_)
      obtain ⟨rfl, -⟩ := hp_16
      refine xr_st (st' := [.int x_13]) rfl ?_
      refine xr_istore_n (n := 42) C [(2, .int x_13), (1, .int x_9), (0, .ref g)] dX9_check_41 (by decide) rfl rfl ?_
      refine xr_iload_n (n := 43) (j := 1) C dX9_check_42 rfl rfl ?_
      refine xr_iconst (n := 44) (v := -1) C dX9_check_43 rfl rfl ?_
      refine xr_icmp_ne (tgt := 54) (n := 47) C dX9_check_44 rfl rfl (fun c_17 => ?_) (fun c_17 => ?_)
      · replace hR := yf_f c_17 hR
        refine xr_iload_n (n := 55) (j := 1) C dX9_check_54 rfl rfl ?_
        refine xr_if_lt (tgt := 62) (n := 58) C dX9_check_55 rfl rfl (fun c_18 => ?_) (fun c_18 => ?_)
        · replace hR := yf_t c_18 hR
          refine xr_iconst (n := 63) (v := 2) C dX9_check_62 rfl rfl ?_
          obtain rfl := Option.some.inj hR
          exact ret 2 ⟨rfl, rfl⟩ (Nat.le_of_ble_eq_true rfl) (Nat.le_of_ble_eq_true rfl) dX9_check_63
        · replace hR := yf_f c_18 hR
          refine xr_iload_n (n := 59) (j := 0) C dX9_check_58 rfl rfl ?_
          refine xr_if_ge (tgt := 64) (n := 62) C dX9_check_59 rfl rfl (fun c_19 => ?_) (fun c_19 => ?_)
          · replace hR := yf_t c_19 hR
            refine xr_iload_n (n := 65) (j := 0) C dX9_check_64 rfl rfl ?_
            refine xr_aload_n (n := 66) (j := 2) C dX9_check_65 rfl rfl ?_
            refine xr_get (n := 69) C 0 rfl rfl 14 (by decide) in_X9 u_1251 rfl (v := .ref gR) rfl dX9_check_66 rfl ?_
            refine xr_iconst (n := 70) (v := 0) C dX9_check_69 rfl rfl ?_
            obtain ⟨g_20, hR⟩ := yf_g hR
            refine xr_aald (n := 71) C 1 0 rfl 3 rfl rfl g_20 rfl dX9_check_70 rfl ?_
            refine xr_aleng (n := 72) C 2 1 rfl ((0 : Int32).toNatClampNeg) (ylt g_20) rfl dX9_check_71 rfl ?_
            refine xr_iconst (n := 73) (v := 1) C dX9_check_72 rfl rfl ?_
            refine xr_isub (n := 74) C dX9_check_73 rfl ?_
            obtain ⟨r_30, hE_30, hR⟩ := yf_b hR
            have J_30 : X p l e (yR 4 0 0) s m args below meth c D A H0 5 Q [[(g, .inr (11, [.int x_4.2, .ref gw, .ref gB, .ref gK, .ref gU, .ref gS, .int gbe, .int gwo, .long gta, .ref gn, .int glr, .int glc, .int gti, .int ggo, .ref gR, .int gch, .ref gD]))], [(gR, .inl (cy 3, gRn, .inr (.inr (.inr (.inr (yad gRd))))))], xg_rows gRd gRn (cy 1) gRk gRG] 0 0 [(0, .ref g), (1, .int x_9), (2, .int x_13)] 93 [.int r_30] := by
              refine xr_istore_n (n := 94) C [(3, .int r_30), (0, .ref g), (1, .int x_9), (2, .int x_13)] dX9_check_93 (by decide) rfl rfl ?_
              refine xr_iload_n (n := 95) (j := 2) C dX9_check_94 rfl rfl ?_
              refine xr_aload_n (n := 96) (j := 1) C dX9_check_95 rfl rfl ?_
              refine xr_get (n := 99) C 0 rfl rfl 14 (by decide) in_X9 u_1251 rfl (v := .ref gR) rfl dX9_check_96 rfl ?_
              refine xr_alen (n := 100) C 1 0 rfl 3 rfl rfl dX9_check_99 rfl ?_
              refine xr_iconst (n := 101) (v := 1) C dX9_check_100 rfl rfl ?_
              refine xr_isub (n := 102) C dX9_check_101 rfl ?_
              obtain ⟨r_40, hE_40, hR⟩ := yf_b hR
              have J_40 : X p l e (yR 4 0 0) s m args below meth c D A H0 5 Q [[(g, .inr (11, [.int x_4.2, .ref gw, .ref gB, .ref gK, .ref gU, .ref gS, .int gbe, .int gwo, .long gta, .ref gn, .int glr, .int glc, .int gti, .int ggo, .ref gR, .int gch, .ref gD]))], [(gR, .inl (cy 3, gRn, .inr (.inr (.inr (.inr (yad gRd))))))], xg_rows gRd gRn (cy 1) gRk gRG] 0 0 [(0, .ref g), (1, .int x_9), (2, .int x_13), (3, .int r_30)] 121 [.int r_40] := by
                refine xr_istore (n := 123) C [(4, .int r_40), (0, .ref g), (1, .int x_9), (2, .int x_13), (3, .int r_30)] dX9_check_121 (by decide) rfl rfl ?_
                refine xr_iload_n (n := 124) (j := 4) C dX9_check_123 rfl rfl ?_
                refine xr_iload (n := 126) (j := 0) C dX9_check_124 rfl rfl ?_
                refine xr_icmp_eq (tgt := 131) (n := 129) C dX9_check_126 rfl rfl (fun c_41 => ?_) (fun c_41 => ?_)
                · replace hR := yf_t c_41 hR
                  refine xr_aload_n (n := 132) (j := 1) C dX9_check_131 rfl rfl ?_
                  refine xr_get (n := 135) C 0 rfl rfl 14 (by decide) in_X9 u_1251 rfl (v := .ref gR) rfl dX9_check_132 rfl ?_
                  refine xr_iload_n (n := 136) (j := 2) C dX9_check_135 rfl rfl ?_
                  obtain ⟨g_42, hR⟩ := yf_g hR
                  refine xr_aald (n := 137) C 1 0 rfl 3 rfl rfl g_42 rfl dX9_check_136 rfl ?_
                  refine xr_iload_n (n := 138) (j := 3) C dX9_check_137 rfl rfl ?_
                  refine xr_dup2 (n := 139) C dX9_check_138 rfl rfl rfl ?_
                  obtain ⟨g_43, hR⟩ := yf_g hR
                  refine xr_ialdg (n := 140) C 2 rfl x_9.toNatClampNeg (ylt g_42) g_43 dX9_check_139 rfl ?_
                  refine xr_iload_n (n := 141) (j := 4) C dX9_check_140 rfl rfl ?_
                  refine xr_iadd (n := 142) C dX9_check_141 rfl ?_
                  obtain ⟨g_44, hR⟩ := yf_g hR
                  refine xr_iastg (n := 143) C 2 rfl x_9.toNatClampNeg (ylt g_42) g_44 [[(g, .inr (11, [.int x_4.2, .ref gw, .ref gB, .ref gK, .ref gU, .ref gS, .int gbe, .int gwo, .long gta, .ref gn, .int glr, .int glc, .int gti, .int ggo, .ref gR, .int gch, .ref gD]))], [(gR, .inl (cy 3, gRn, .inr (.inr (.inr (.inr (yad gRd))))))], xg_rows gRd gRn (cy 1) gRk (upg gRG x_9.toNatClampNeg x_13.toNatClampNeg ((gRG x_9.toNatClampNeg x_13.toNatClampNeg) + r_30))] rfl dX9_check_142 rfl ?_
                  refine xr_iconst (n := 144) (v := 1) C dX9_check_143 rfl rfl ?_
                  obtain rfl := Option.some.inj hR
                  exact ret 1 ⟨rfl, rfl⟩ (Nat.le_of_ble_eq_true rfl) (Nat.le_of_ble_eq_true rfl) dX9_check_144
                · replace hR := yf_f c_41 hR
                  refine xr_iconst (n := 130) (v := 2) C dX9_check_129 rfl rfl ?_
                  obtain rfl := Option.some.inj hR
                  exact ret 2 ⟨rfl, rfl⟩ (Nat.le_of_ble_eq_true rfl) (Nat.le_of_ble_eq_true rfl) dX9_check_130
              refine xr_icmp_ne (tgt := 115) (n := 105) C dX9_check_102 rfl rfl (fun c_45 => ?_) (fun c_45 => ?_)
              · replace hE_40 := yf_f c_45 hE_40
                refine xr_aload_n (n := 116) (j := 1) C dX9_check_115 rfl rfl ?_
                refine xr_iconst (n := 117) (v := 0) C dX9_check_116 rfl rfl ?_
                refine xr_iload_n (n := 118) (j := 3) C dX9_check_117 rfl rfl ?_
                obtain ⟨x_46, hx_46, hE_40⟩ := yf_b hE_40
                refine xr_callVp (n := 121) (As := [.int 0, .int x_13]) (rest := []) C (kX9_off_r l D cy (g := g) (gth := x_4.2) (gw := gw) (gB := gB) (gK := gK) (gU := gU) (gS := gS) (gbe := gbe) (gwo := gwo) (gta := gta) (gn := gn) (glr := glr) (glc := glc) (gti := gti) (ggo := ggo) (gR := gR) (gch := gch) (gD := gD) (gRd := gRd) (gRn := gRn) (gRk := gRk) (gRG := gRG) (i1 := 0) (i2 := x_13) hx_46) mX9_off u_1500 u_1502 u_47 0 rfl rfl 3 [0, 1, 2] [] rfl (by decide +kernel) rfl rfl rfl rfl (Nat.le_of_ble_eq_true rfl) (Nat.le_of_ble_eq_true rfl) (Nat.le_of_ble_eq_true rfl) (Nat.le_of_ble_eq_true rfl) (Nat.le_of_ble_eq_true rfl) dX9_check_118 rfl (fun _ _ hp => hp.2) (fun v_47 hp_49 => ?_)
                obtain ⟨rfl, -⟩ := hp_49
                refine xr_st (st' := [.int x_46]) rfl ?_
                refine xr_lv (lv' := [(0, .ref g), (1, .int x_9), (2, .int x_13), (3, .int r_30)]) [1, 2, 3, 0] rfl ?_
                have e_50 := Option.some.inj hE_40
                subst e_50
                exact J_40
              · replace hE_40 := yf_t c_45 hE_40
                refine xr_aload_n (n := 106) (j := 1) C dX9_check_105 rfl rfl ?_
                refine xr_iconst (n := 107) (v := 0) C dX9_check_106 rfl rfl ?_
                refine xr_iload_n (n := 108) (j := 3) C dX9_check_107 rfl rfl ?_
                obtain ⟨x_51, hx_51, hE_40⟩ := yf_b hE_40
                refine xr_callVp (n := 111) (As := [.int 0, .int x_13]) (rest := []) C (kX9_off_r l D cy (g := g) (gth := x_4.2) (gw := gw) (gB := gB) (gK := gK) (gU := gU) (gS := gS) (gbe := gbe) (gwo := gwo) (gta := gta) (gn := gn) (glr := glr) (glc := glc) (gti := gti) (ggo := ggo) (gR := gR) (gch := gch) (gD := gD) (gRd := gRd) (gRn := gRn) (gRk := gRk) (gRG := gRG) (i1 := 0) (i2 := x_13) hx_51) mX9_off u_1500 u_1502 u_47 0 rfl rfl 3 [0, 1, 2] [] rfl (by decide +kernel) rfl rfl rfl rfl (Nat.le_of_ble_eq_true rfl) (Nat.le_of_ble_eq_true rfl) (Nat.le_of_ble_eq_true rfl) (Nat.le_of_ble_eq_true rfl) (Nat.le_of_ble_eq_true rfl) dX9_check_108 rfl (fun _ _ hp => hp.2) (fun v_52 hp_54 => ?_)
                obtain ⟨rfl, -⟩ := hp_54
                refine xr_st (st' := [.int x_51]) rfl ?_
                refine xr_ineg (n := 112) C dX9_check_111 rfl ?_
                refine xr_goto (tgt := 121) C dX9_check_112 rfl ?_
                refine xr_lv (lv' := [(0, .ref g), (1, .int x_9), (2, .int x_13), (3, .int r_30)]) [1, 2, 3, 0] rfl ?_
                have e_55 := Option.some.inj hE_40
                subst e_55
                exact J_40
            refine xr_icmp_ne (tgt := 87) (n := 77) C dX9_check_74 rfl rfl (fun c_56 => ?_) (fun c_56 => ?_)
            · replace hE_30 := yf_f c_56 hE_30
              refine xr_aload_n (n := 88) (j := 2) C dX9_check_87 rfl rfl ?_
              refine xr_iconst (n := 89) (v := 1) C dX9_check_88 rfl rfl ?_
              refine xr_iload_n (n := 90) (j := 1) C dX9_check_89 rfl rfl ?_
              obtain ⟨x_57, hx_57, hE_30⟩ := yf_b hE_30
              refine xr_callVp (n := 93) (As := [.int 1, .int x_9]) (rest := []) C (kX9_off_r l D cy (g := g) (gth := x_4.2) (gw := gw) (gB := gB) (gK := gK) (gU := gU) (gS := gS) (gbe := gbe) (gwo := gwo) (gta := gta) (gn := gn) (glr := glr) (glc := glc) (gti := gti) (ggo := ggo) (gR := gR) (gch := gch) (gD := gD) (gRd := gRd) (gRn := gRn) (gRk := gRk) (gRG := gRG) (i1 := 1) (i2 := x_9) hx_57) mX9_off u_1500 u_1502 u_47 0 rfl rfl 3 [0, 1, 2] [] rfl (by decide +kernel) rfl rfl rfl rfl (Nat.le_of_ble_eq_true rfl) (Nat.le_of_ble_eq_true rfl) (Nat.le_of_ble_eq_true rfl) (Nat.le_of_ble_eq_true rfl) (Nat.le_of_ble_eq_true rfl) dX9_check_90 rfl (fun _ _ hp => hp.2) (fun v_58 hp_60 => ?_)
              obtain ⟨rfl, -⟩ := hp_60
              refine xr_st (st' := [.int x_57]) rfl ?_
              refine xr_lv (lv' := [(0, .ref g), (1, .int x_9), (2, .int x_13)]) [2, 1, 0] rfl ?_
              have e_61 := Option.some.inj hE_30
              subst e_61
              exact J_30
            · replace hE_30 := yf_t c_56 hE_30
              refine xr_aload_n (n := 78) (j := 2) C dX9_check_77 rfl rfl ?_
              refine xr_iconst (n := 79) (v := 1) C dX9_check_78 rfl rfl ?_
              refine xr_iload_n (n := 80) (j := 1) C dX9_check_79 rfl rfl ?_
              obtain ⟨x_62, hx_62, hE_30⟩ := yf_b hE_30
              refine xr_callVp (n := 83) (As := [.int 1, .int x_9]) (rest := []) C (kX9_off_r l D cy (g := g) (gth := x_4.2) (gw := gw) (gB := gB) (gK := gK) (gU := gU) (gS := gS) (gbe := gbe) (gwo := gwo) (gta := gta) (gn := gn) (glr := glr) (glc := glc) (gti := gti) (ggo := ggo) (gR := gR) (gch := gch) (gD := gD) (gRd := gRd) (gRn := gRn) (gRk := gRk) (gRG := gRG) (i1 := 1) (i2 := x_9) hx_62) mX9_off u_1500 u_1502 u_47 0 rfl rfl 3 [0, 1, 2] [] rfl (by decide +kernel) rfl rfl rfl rfl (Nat.le_of_ble_eq_true rfl) (Nat.le_of_ble_eq_true rfl) (Nat.le_of_ble_eq_true rfl) (Nat.le_of_ble_eq_true rfl) (Nat.le_of_ble_eq_true rfl) dX9_check_80 rfl (fun _ _ hp => hp.2) (fun v_63 hp_65 => ?_)
              obtain ⟨rfl, -⟩ := hp_65
              refine xr_st (st' := [.int x_62]) rfl ?_
              refine xr_ineg (n := 84) C dX9_check_83 rfl ?_
              refine xr_goto (tgt := 93) C dX9_check_84 rfl ?_
              refine xr_lv (lv' := [(0, .ref g), (1, .int x_9), (2, .int x_13)]) [2, 1, 0] rfl ?_
              have e_66 := Option.some.inj hE_30
              subst e_66
              exact J_30
          · replace hR := yf_f c_19 hR
            refine xr_iconst (n := 63) (v := 2) C dX9_check_62 rfl rfl ?_
            obtain rfl := Option.some.inj hR
            exact ret 2 ⟨rfl, rfl⟩ (Nat.le_of_ble_eq_true rfl) (Nat.le_of_ble_eq_true rfl) dX9_check_63
      · replace hR := yf_t c_17 hR
        refine xr_iload_n (n := 48) (j := 0) C dX9_check_47 rfl rfl ?_
        refine xr_iconst (n := 49) (v := -1) C dX9_check_48 rfl rfl ?_
        refine xr_icmp_ne (tgt := 54) (n := 52) C dX9_check_49 rfl rfl (fun c_67 => ?_) (fun c_67 => ?_)
        · replace hR := yf_f c_67 hR
          refine xr_iload_n (n := 55) (j := 1) C dX9_check_54 rfl rfl ?_
          refine xr_if_lt (tgt := 62) (n := 58) C dX9_check_55 rfl rfl (fun c_68 => ?_) (fun c_68 => ?_)
          · replace hR := yf_t c_68 hR
            refine xr_iconst (n := 63) (v := 2) C dX9_check_62 rfl rfl ?_
            obtain rfl := Option.some.inj hR
            exact ret 2 ⟨rfl, rfl⟩ (Nat.le_of_ble_eq_true rfl) (Nat.le_of_ble_eq_true rfl) dX9_check_63
          · replace hR := yf_f c_68 hR
            refine xr_iload_n (n := 59) (j := 0) C dX9_check_58 rfl rfl ?_
            refine xr_if_ge (tgt := 64) (n := 62) C dX9_check_59 rfl rfl (fun c_69 => ?_) (fun c_69 => ?_)
            · replace hR := yf_t c_69 hR
              refine xr_iload_n (n := 65) (j := 0) C dX9_check_64 rfl rfl ?_
              refine xr_aload_n (n := 66) (j := 2) C dX9_check_65 rfl rfl ?_
              refine xr_get (n := 69) C 0 rfl rfl 14 (by decide) in_X9 u_1251 rfl (v := .ref gR) rfl dX9_check_66 rfl ?_
              refine xr_iconst (n := 70) (v := 0) C dX9_check_69 rfl rfl ?_
              obtain ⟨g_70, hR⟩ := yf_g hR
              refine xr_aald (n := 71) C 1 0 rfl 3 rfl rfl g_70 rfl dX9_check_70 rfl ?_
              refine xr_aleng (n := 72) C 2 1 rfl ((0 : Int32).toNatClampNeg) (ylt g_70) rfl dX9_check_71 rfl ?_
              refine xr_iconst (n := 73) (v := 1) C dX9_check_72 rfl rfl ?_
              refine xr_isub (n := 74) C dX9_check_73 rfl ?_
              obtain ⟨r_80, hE_80, hR⟩ := yf_b hR
              have J_80 : X p l e (yR 4 0 0) s m args below meth c D A H0 5 Q [[(g, .inr (11, [.int x_4.2, .ref gw, .ref gB, .ref gK, .ref gU, .ref gS, .int gbe, .int gwo, .long gta, .ref gn, .int glr, .int glc, .int gti, .int ggo, .ref gR, .int gch, .ref gD]))], [(gR, .inl (cy 3, gRn, .inr (.inr (.inr (.inr (yad gRd))))))], xg_rows gRd gRn (cy 1) gRk gRG] 0 0 [(0, .ref g), (1, .int x_9), (2, .int x_13)] 93 [.int r_80] := by
                refine xr_istore_n (n := 94) C [(3, .int r_80), (0, .ref g), (1, .int x_9), (2, .int x_13)] dX9_check_93 (by decide) rfl rfl ?_
                refine xr_iload_n (n := 95) (j := 2) C dX9_check_94 rfl rfl ?_
                refine xr_aload_n (n := 96) (j := 1) C dX9_check_95 rfl rfl ?_
                refine xr_get (n := 99) C 0 rfl rfl 14 (by decide) in_X9 u_1251 rfl (v := .ref gR) rfl dX9_check_96 rfl ?_
                refine xr_alen (n := 100) C 1 0 rfl 3 rfl rfl dX9_check_99 rfl ?_
                refine xr_iconst (n := 101) (v := 1) C dX9_check_100 rfl rfl ?_
                refine xr_isub (n := 102) C dX9_check_101 rfl ?_
                obtain ⟨r_90, hE_90, hR⟩ := yf_b hR
                have J_90 : X p l e (yR 4 0 0) s m args below meth c D A H0 5 Q [[(g, .inr (11, [.int x_4.2, .ref gw, .ref gB, .ref gK, .ref gU, .ref gS, .int gbe, .int gwo, .long gta, .ref gn, .int glr, .int glc, .int gti, .int ggo, .ref gR, .int gch, .ref gD]))], [(gR, .inl (cy 3, gRn, .inr (.inr (.inr (.inr (yad gRd))))))], xg_rows gRd gRn (cy 1) gRk gRG] 0 0 [(0, .ref g), (1, .int x_9), (2, .int x_13), (3, .int r_80)] 121 [.int r_90] := by
                  refine xr_istore (n := 123) C [(4, .int r_90), (0, .ref g), (1, .int x_9), (2, .int x_13), (3, .int r_80)] dX9_check_121 (by decide) rfl rfl ?_
                  refine xr_iload_n (n := 124) (j := 4) C dX9_check_123 rfl rfl ?_
                  refine xr_iload (n := 126) (j := 0) C dX9_check_124 rfl rfl ?_
                  refine xr_icmp_eq (tgt := 131) (n := 129) C dX9_check_126 rfl rfl (fun c_91 => ?_) (fun c_91 => ?_)
                  · replace hR := yf_t c_91 hR
                    refine xr_aload_n (n := 132) (j := 1) C dX9_check_131 rfl rfl ?_
                    refine xr_get (n := 135) C 0 rfl rfl 14 (by decide) in_X9 u_1251 rfl (v := .ref gR) rfl dX9_check_132 rfl ?_
                    refine xr_iload_n (n := 136) (j := 2) C dX9_check_135 rfl rfl ?_
                    obtain ⟨g_92, hR⟩ := yf_g hR
                    refine xr_aald (n := 137) C 1 0 rfl 3 rfl rfl g_92 rfl dX9_check_136 rfl ?_
                    refine xr_iload_n (n := 138) (j := 3) C dX9_check_137 rfl rfl ?_
                    refine xr_dup2 (n := 139) C dX9_check_138 rfl rfl rfl ?_
                    obtain ⟨g_93, hR⟩ := yf_g hR
                    refine xr_ialdg (n := 140) C 2 rfl x_9.toNatClampNeg (ylt g_92) g_93 dX9_check_139 rfl ?_
                    refine xr_iload_n (n := 141) (j := 4) C dX9_check_140 rfl rfl ?_
                    refine xr_iadd (n := 142) C dX9_check_141 rfl ?_
                    obtain ⟨g_94, hR⟩ := yf_g hR
                    refine xr_iastg (n := 143) C 2 rfl x_9.toNatClampNeg (ylt g_92) g_94 [[(g, .inr (11, [.int x_4.2, .ref gw, .ref gB, .ref gK, .ref gU, .ref gS, .int gbe, .int gwo, .long gta, .ref gn, .int glr, .int glc, .int gti, .int ggo, .ref gR, .int gch, .ref gD]))], [(gR, .inl (cy 3, gRn, .inr (.inr (.inr (.inr (yad gRd))))))], xg_rows gRd gRn (cy 1) gRk (upg gRG x_9.toNatClampNeg x_13.toNatClampNeg ((gRG x_9.toNatClampNeg x_13.toNatClampNeg) + r_80))] rfl dX9_check_142 rfl ?_
                    refine xr_iconst (n := 144) (v := 1) C dX9_check_143 rfl rfl ?_
                    obtain rfl := Option.some.inj hR
                    exact ret 1 ⟨rfl, rfl⟩ (Nat.le_of_ble_eq_true rfl) (Nat.le_of_ble_eq_true rfl) dX9_check_144
                  · replace hR := yf_f c_91 hR
                    refine xr_iconst (n := 130) (v := 2) C dX9_check_129 rfl rfl ?_
                    obtain rfl := Option.some.inj hR
                    exact ret 2 ⟨rfl, rfl⟩ (Nat.le_of_ble_eq_true rfl) (Nat.le_of_ble_eq_true rfl) dX9_check_130
                refine xr_icmp_ne (tgt := 115) (n := 105) C dX9_check_102 rfl rfl (fun c_95 => ?_) (fun c_95 => ?_)
                · replace hE_90 := yf_f c_95 hE_90
                  refine xr_aload_n (n := 116) (j := 1) C dX9_check_115 rfl rfl ?_
                  refine xr_iconst (n := 117) (v := 0) C dX9_check_116 rfl rfl ?_
                  refine xr_iload_n (n := 118) (j := 3) C dX9_check_117 rfl rfl ?_
                  obtain ⟨x_96, hx_96, hE_90⟩ := yf_b hE_90
                  refine xr_callVp (n := 121) (As := [.int 0, .int x_13]) (rest := []) C (kX9_off_r l D cy (g := g) (gth := x_4.2) (gw := gw) (gB := gB) (gK := gK) (gU := gU) (gS := gS) (gbe := gbe) (gwo := gwo) (gta := gta) (gn := gn) (glr := glr) (glc := glc) (gti := gti) (ggo := ggo) (gR := gR) (gch := gch) (gD := gD) (gRd := gRd) (gRn := gRn) (gRk := gRk) (gRG := gRG) (i1 := 0) (i2 := x_13) hx_96) mX9_off u_1500 u_1502 u_47 0 rfl rfl 3 [0, 1, 2] [] rfl (by decide +kernel) rfl rfl rfl rfl (Nat.le_of_ble_eq_true rfl) (Nat.le_of_ble_eq_true rfl) (Nat.le_of_ble_eq_true rfl) (Nat.le_of_ble_eq_true rfl) (Nat.le_of_ble_eq_true rfl) dX9_check_118 rfl (fun _ _ hp => hp.2) (fun v_97 hp_99 => ?_)
                  obtain ⟨rfl, -⟩ := hp_99
                  refine xr_st (st' := [.int x_96]) rfl ?_
                  refine xr_lv (lv' := [(0, .ref g), (1, .int x_9), (2, .int x_13), (3, .int r_80)]) [1, 2, 3, 0] rfl ?_
                  have e_100 := Option.some.inj hE_90
                  subst e_100
                  exact J_90
                · replace hE_90 := yf_t c_95 hE_90
                  refine xr_aload_n (n := 106) (j := 1) C dX9_check_105 rfl rfl ?_
                  refine xr_iconst (n := 107) (v := 0) C dX9_check_106 rfl rfl ?_
                  refine xr_iload_n (n := 108) (j := 3) C dX9_check_107 rfl rfl ?_
                  obtain ⟨x_101, hx_101, hE_90⟩ := yf_b hE_90
                  refine xr_callVp (n := 111) (As := [.int 0, .int x_13]) (rest := []) C (kX9_off_r l D cy (g := g) (gth := x_4.2) (gw := gw) (gB := gB) (gK := gK) (gU := gU) (gS := gS) (gbe := gbe) (gwo := gwo) (gta := gta) (gn := gn) (glr := glr) (glc := glc) (gti := gti) (ggo := ggo) (gR := gR) (gch := gch) (gD := gD) (gRd := gRd) (gRn := gRn) (gRk := gRk) (gRG := gRG) (i1 := 0) (i2 := x_13) hx_101) mX9_off u_1500 u_1502 u_47 0 rfl rfl 3 [0, 1, 2] [] rfl (by decide +kernel) rfl rfl rfl rfl (Nat.le_of_ble_eq_true rfl) (Nat.le_of_ble_eq_true rfl) (Nat.le_of_ble_eq_true rfl) (Nat.le_of_ble_eq_true rfl) (Nat.le_of_ble_eq_true rfl) dX9_check_108 rfl (fun _ _ hp => hp.2) (fun v_102 hp_104 => ?_)
                  obtain ⟨rfl, -⟩ := hp_104
                  refine xr_st (st' := [.int x_101]) rfl ?_
                  refine xr_ineg (n := 112) C dX9_check_111 rfl ?_
                  refine xr_goto (tgt := 121) C dX9_check_112 rfl ?_
                  refine xr_lv (lv' := [(0, .ref g), (1, .int x_9), (2, .int x_13), (3, .int r_80)]) [1, 2, 3, 0] rfl ?_
                  have e_105 := Option.some.inj hE_90
                  subst e_105
                  exact J_90
              refine xr_icmp_ne (tgt := 87) (n := 77) C dX9_check_74 rfl rfl (fun c_106 => ?_) (fun c_106 => ?_)
              · replace hE_80 := yf_f c_106 hE_80
                refine xr_aload_n (n := 88) (j := 2) C dX9_check_87 rfl rfl ?_
                refine xr_iconst (n := 89) (v := 1) C dX9_check_88 rfl rfl ?_
                refine xr_iload_n (n := 90) (j := 1) C dX9_check_89 rfl rfl ?_
                obtain ⟨x_107, hx_107, hE_80⟩ := yf_b hE_80
                refine xr_callVp (n := 93) (As := [.int 1, .int x_9]) (rest := []) C (kX9_off_r l D cy (g := g) (gth := x_4.2) (gw := gw) (gB := gB) (gK := gK) (gU := gU) (gS := gS) (gbe := gbe) (gwo := gwo) (gta := gta) (gn := gn) (glr := glr) (glc := glc) (gti := gti) (ggo := ggo) (gR := gR) (gch := gch) (gD := gD) (gRd := gRd) (gRn := gRn) (gRk := gRk) (gRG := gRG) (i1 := 1) (i2 := x_9) hx_107) mX9_off u_1500 u_1502 u_47 0 rfl rfl 3 [0, 1, 2] [] rfl (by decide +kernel) rfl rfl rfl rfl (Nat.le_of_ble_eq_true rfl) (Nat.le_of_ble_eq_true rfl) (Nat.le_of_ble_eq_true rfl) (Nat.le_of_ble_eq_true rfl) (Nat.le_of_ble_eq_true rfl) dX9_check_90 rfl (fun _ _ hp => hp.2) (fun v_108 hp_110 => ?_)
                obtain ⟨rfl, -⟩ := hp_110
                refine xr_st (st' := [.int x_107]) rfl ?_
                refine xr_lv (lv' := [(0, .ref g), (1, .int x_9), (2, .int x_13)]) [2, 1, 0] rfl ?_
                have e_111 := Option.some.inj hE_80
                subst e_111
                exact J_80
              · replace hE_80 := yf_t c_106 hE_80
                refine xr_aload_n (n := 78) (j := 2) C dX9_check_77 rfl rfl ?_
                refine xr_iconst (n := 79) (v := 1) C dX9_check_78 rfl rfl ?_
                refine xr_iload_n (n := 80) (j := 1) C dX9_check_79 rfl rfl ?_
                obtain ⟨x_112, hx_112, hE_80⟩ := yf_b hE_80
                refine xr_callVp (n := 83) (As := [.int 1, .int x_9]) (rest := []) C (kX9_off_r l D cy (g := g) (gth := x_4.2) (gw := gw) (gB := gB) (gK := gK) (gU := gU) (gS := gS) (gbe := gbe) (gwo := gwo) (gta := gta) (gn := gn) (glr := glr) (glc := glc) (gti := gti) (ggo := ggo) (gR := gR) (gch := gch) (gD := gD) (gRd := gRd) (gRn := gRn) (gRk := gRk) (gRG := gRG) (i1 := 1) (i2 := x_9) hx_112) mX9_off u_1500 u_1502 u_47 0 rfl rfl 3 [0, 1, 2] [] rfl (by decide +kernel) rfl rfl rfl rfl (Nat.le_of_ble_eq_true rfl) (Nat.le_of_ble_eq_true rfl) (Nat.le_of_ble_eq_true rfl) (Nat.le_of_ble_eq_true rfl) (Nat.le_of_ble_eq_true rfl) dX9_check_80 rfl (fun _ _ hp => hp.2) (fun v_113 hp_115 => ?_)
                obtain ⟨rfl, -⟩ := hp_115
                refine xr_st (st' := [.int x_112]) rfl ?_
                refine xr_ineg (n := 84) C dX9_check_83 rfl ?_
                refine xr_goto (tgt := 93) C dX9_check_84 rfl ?_
                refine xr_lv (lv' := [(0, .ref g), (1, .int x_9), (2, .int x_13)]) [2, 1, 0] rfl ?_
                have e_116 := Option.some.inj hE_80
                subst e_116
                exact J_80
            · replace hR := yf_f c_69 hR
              refine xr_iconst (n := 63) (v := 2) C dX9_check_62 rfl rfl ?_
              obtain rfl := Option.some.inj hR
              exact ret 2 ⟨rfl, rfl⟩ (Nat.le_of_ble_eq_true rfl) (Nat.le_of_ble_eq_true rfl) dX9_check_63
        · replace hR := yf_t c_67 hR
          refine xr_iconst (n := 53) (v := 0) C dX9_check_52 rfl rfl ?_
          obtain rfl := Option.some.inj hR
          exact ret 0 ⟨rfl, rfl⟩ (Nat.le_of_ble_eq_true rfl) (Nat.le_of_ble_eq_true rfl) dX9_check_53
    · replace hR := yf_f c_8 hR
      refine xr_iconst (n := 29) (v := 0) C dX9_check_28 rfl rfl ?_
      obtain rfl := Option.some.inj hR
      exact ret 0 ⟨rfl, rfl⟩ (Nat.le_of_ble_eq_true rfl) (Nat.le_of_ble_eq_true rfl) dX9_check_29
  refine xr_if_eq (tgt := 16) (n := 9) C dX9_check_6 rfl rfl (fun c_117 => ?_) (fun c_117 => ?_)
  · replace hE_3 := yf_t c_117 hE_3
    refine xr_iconst (n := 17) (v := 1) C dX9_check_16 rfl rfl ?_
    refine xr_goto (tgt := 21) C dX9_check_17 rfl ?_
    have e_118 := Option.some.inj hE_3
    subst e_118
    exact J_3
  · replace hE_3 := yf_f c_117 hE_3
    refine xr_aload_n (n := 10) (j := 0) C dX9_check_9 rfl rfl ?_
    refine xr_get (n := 13) C 0 rfl rfl 15 (by decide) in_X9 u_1252 rfl (v := .int gch) rfl dX9_check_10 rfl ?_
    refine xr_if_ne (tgt := 20) (n := 16) C dX9_check_13 rfl rfl (fun c_119 => ?_) (fun c_119 => ?_)
    · replace hE_3 := yf_f c_119 hE_3
      refine xr_iconst (n := 21) (v := 0) C dX9_check_20 rfl rfl ?_
      have e_120 := Option.some.inj hE_3
      subst e_120
      exact J_3
    · replace hE_3 := yf_t c_119 hE_3
      refine xr_iconst (n := 17) (v := 1) C dX9_check_16 rfl rfl ?_
      refine xr_goto (tgt := 21) C dX9_check_17 rfl ?_
      have e_121 := Option.some.inj hE_3
      subst e_121
      exact J_3
theorem dX9_meshTold_0 : decode cX9_meshTold 0 = .ok (.iload_n 1, 1) := by decide +kernel
theorem dX9_meshTold_1 : decode cX9_meshTold 1 = .ok (.tableswitch 205 0 14 #[75, 83, 91, 99, 107, 118, 126, 134, 143, 152, 157, 162, 178, 183, 199], 75) := by decide +kernel
theorem dX9_meshTold_76 : decode cX9_meshTold 76 = .ok (.aload_n 0, 1) := by decide +kernel
theorem dX9_meshTold_77 : decode cX9_meshTold 77 = .ok (.getfield 16, 3) := by decide +kernel
theorem dX9_meshTold_80 : decode cX9_meshTold 80 = .ok (.getfield 48, 3) := by decide +kernel
theorem dX9_meshTold_83 : decode cX9_meshTold 83 = .ok (.ireturn, 1) := by decide +kernel
theorem dX9_meshTold_84 : decode cX9_meshTold 84 = .ok (.aload_n 0, 1) := by decide +kernel
theorem dX9_meshTold_85 : decode cX9_meshTold 85 = .ok (.getfield 16, 3) := by decide +kernel
theorem dX9_meshTold_88 : decode cX9_meshTold 88 = .ok (.getfield 52, 3) := by decide +kernel
theorem dX9_meshTold_91 : decode cX9_meshTold 91 = .ok (.ireturn, 1) := by decide +kernel
theorem dX9_meshTold_92 : decode cX9_meshTold 92 = .ok (.aload_n 0, 1) := by decide +kernel
theorem dX9_meshTold_93 : decode cX9_meshTold 93 = .ok (.getfield 16, 3) := by decide +kernel
theorem dX9_meshTold_96 : decode cX9_meshTold 96 = .ok (.getfield 55, 3) := by decide +kernel
theorem dX9_meshTold_99 : decode cX9_meshTold 99 = .ok (.ireturn, 1) := by decide +kernel
theorem dX9_meshTold_100 : decode cX9_meshTold 100 = .ok (.aload_n 0, 1) := by decide +kernel
theorem dX9_meshTold_101 : decode cX9_meshTold 101 = .ok (.getfield 16, 3) := by decide +kernel
theorem dX9_meshTold_104 : decode cX9_meshTold 104 = .ok (.getfield 86, 3) := by decide +kernel
theorem dX9_meshTold_107 : decode cX9_meshTold 107 = .ok (.ireturn, 1) := by decide +kernel
theorem dX9_meshTold_108 : decode cX9_meshTold 108 = .ok (.aload_n 0, 1) := by decide +kernel
theorem dX9_meshTold_109 : decode cX9_meshTold 109 = .ok (.getfield 16, 3) := by decide +kernel
theorem dX9_meshTold_112 : decode cX9_meshTold 112 = .ok (.getfield 89, 3) := by decide +kernel
theorem dX9_meshTold_115 : decode cX9_meshTold 115 = .ok (.invokestatic 71, 3) := by decide +kernel
theorem dX9_meshTold_118 : decode cX9_meshTold 118 = .ok (.ireturn, 1) := by decide +kernel
theorem dX9_meshTold_119 : decode cX9_meshTold 119 = .ok (.aload_n 0, 1) := by decide +kernel
theorem dX9_meshTold_120 : decode cX9_meshTold 120 = .ok (.getfield 16, 3) := by decide +kernel
theorem dX9_meshTold_123 : decode cX9_meshTold 123 = .ok (.invokevirtual 120, 3) := by decide +kernel
theorem dX9_meshTold_126 : decode cX9_meshTold 126 = .ok (.ireturn, 1) := by decide +kernel
theorem dX9_meshTold_127 : decode cX9_meshTold 127 = .ok (.aload_n 0, 1) := by decide +kernel
theorem dX9_meshTold_128 : decode cX9_meshTold 128 = .ok (.getfield 16, 3) := by decide +kernel
theorem dX9_meshTold_131 : decode cX9_meshTold 131 = .ok (.invokevirtual 193, 3) := by decide +kernel
theorem dX9_meshTold_134 : decode cX9_meshTold 134 = .ok (.ireturn, 1) := by decide +kernel
theorem dX9_meshTold_135 : decode cX9_meshTold 135 = .ok (.aload_n 0, 1) := by decide +kernel
theorem dX9_meshTold_136 : decode cX9_meshTold 136 = .ok (.aload_n 0, 1) := by decide +kernel
theorem dX9_meshTold_137 : decode cX9_meshTold 137 = .ok (.getfield 24, 3) := by decide +kernel
theorem dX9_meshTold_140 : decode cX9_meshTold 140 = .ok (.invokevirtual 133, 3) := by decide +kernel
theorem dX9_meshTold_143 : decode cX9_meshTold 143 = .ok (.ireturn, 1) := by decide +kernel
theorem dX9_meshTold_144 : decode cX9_meshTold 144 = .ok (.aload_n 0, 1) := by decide +kernel
theorem dX9_meshTold_145 : decode cX9_meshTold 145 = .ok (.aload_n 0, 1) := by decide +kernel
theorem dX9_meshTold_146 : decode cX9_meshTold 146 = .ok (.getfield 27, 3) := by decide +kernel
theorem dX9_meshTold_149 : decode cX9_meshTold 149 = .ok (.invokevirtual 133, 3) := by decide +kernel
theorem dX9_meshTold_152 : decode cX9_meshTold 152 = .ok (.ireturn, 1) := by decide +kernel
theorem dX9_meshTold_153 : decode cX9_meshTold 153 = .ok (.aload_n 0, 1) := by decide +kernel
theorem dX9_meshTold_154 : decode cX9_meshTold 154 = .ok (.getfield 213, 3) := by decide +kernel
theorem dX9_meshTold_157 : decode cX9_meshTold 157 = .ok (.ireturn, 1) := by decide +kernel
theorem dX9_meshTold_158 : decode cX9_meshTold 158 = .ok (.aload_n 0, 1) := by decide +kernel
theorem dX9_meshTold_159 : decode cX9_meshTold 159 = .ok (.getfield 184, 3) := by decide +kernel
theorem dX9_meshTold_162 : decode cX9_meshTold 162 = .ok (.ireturn, 1) := by decide +kernel
theorem dX9_meshTold_163 : decode cX9_meshTold 163 = .ok (.aload_n 0, 1) := by decide +kernel
theorem dX9_meshTold_164 : decode cX9_meshTold 164 = .ok (.getfield 137, 3) := by decide +kernel
theorem dX9_meshTold_167 : decode cX9_meshTold 167 = .ok (.ifnull 7, 3) := by decide +kernel
theorem dX9_meshTold_170 : decode cX9_meshTold 170 = .ok (.iconst 1, 1) := by decide +kernel
theorem dX9_meshTold_171 : decode cX9_meshTold 171 = .ok (.goto 4, 3) := by decide +kernel
theorem dX9_meshTold_174 : decode cX9_meshTold 174 = .ok (.iconst 0, 1) := by decide +kernel
theorem dX9_meshTold_175 : decode cX9_meshTold 175 = .ok (.invokestatic 71, 3) := by decide +kernel
theorem dX9_meshTold_178 : decode cX9_meshTold 178 = .ok (.ireturn, 1) := by decide +kernel
theorem dX9_meshTold_179 : decode cX9_meshTold 179 = .ok (.aload_n 0, 1) := by decide +kernel
theorem dX9_meshTold_180 : decode cX9_meshTold 180 = .ok (.invokevirtual 187, 3) := by decide +kernel
theorem dX9_meshTold_183 : decode cX9_meshTold 183 = .ok (.ireturn, 1) := by decide +kernel
theorem dX9_meshTold_184 : decode cX9_meshTold 184 = .ok (.aload_n 0, 1) := by decide +kernel
theorem dX9_meshTold_185 : decode cX9_meshTold 185 = .ok (.getfield 137, 3) := by decide +kernel
theorem dX9_meshTold_188 : decode cX9_meshTold 188 = .ok (.ifnonnull 7, 3) := by decide +kernel
theorem dX9_meshTold_191 : decode cX9_meshTold 191 = .ok (.iconst (-1), 1) := by decide +kernel
theorem dX9_meshTold_192 : decode cX9_meshTold 192 = .ok (.goto 7, 3) := by decide +kernel
theorem dX9_meshTold_195 : decode cX9_meshTold 195 = .ok (.aload_n 0, 1) := by decide +kernel
theorem dX9_meshTold_196 : decode cX9_meshTold 196 = .ok (.getfield 155, 3) := by decide +kernel
theorem dX9_meshTold_199 : decode cX9_meshTold 199 = .ok (.ireturn, 1) := by decide +kernel
theorem dX9_meshTold_200 : decode cX9_meshTold 200 = .ok (.aload_n 0, 1) := by decide +kernel
theorem dX9_meshTold_201 : decode cX9_meshTold 201 = .ok (.getfield 38, 3) := by decide +kernel
theorem dX9_meshTold_204 : decode cX9_meshTold 204 = .ok (.arraylength, 1) := by decide +kernel
theorem dX9_meshTold_205 : decode cX9_meshTold 205 = .ok (.ireturn, 1) := by decide +kernel
theorem dX9_meshTold_206 : decode cX9_meshTold 206 = .ok (.aload_n 0, 1) := by decide +kernel
theorem dX9_meshTold_207 : decode cX9_meshTold 207 = .ok (.getfield 38, 3) := by decide +kernel
theorem dX9_meshTold_210 : decode cX9_meshTold 210 = .ok (.arraylength, 1) := by decide +kernel
theorem dX9_meshTold_211 : decode cX9_meshTold 211 = .ok (.ifCond .ne 7, 3) := by decide +kernel
theorem dX9_meshTold_214 : decode cX9_meshTold 214 = .ok (.iconst 0, 1) := by decide +kernel
theorem dX9_meshTold_215 : decode cX9_meshTold 215 = .ok (.goto 10, 3) := by decide +kernel
theorem dX9_meshTold_218 : decode cX9_meshTold 218 = .ok (.aload_n 0, 1) := by decide +kernel
theorem dX9_meshTold_219 : decode cX9_meshTold 219 = .ok (.getfield 38, 3) := by decide +kernel
theorem dX9_meshTold_222 : decode cX9_meshTold 222 = .ok (.iconst 0, 1) := by decide +kernel
theorem dX9_meshTold_223 : decode cX9_meshTold 223 = .ok (.aaload, 1) := by decide +kernel
theorem dX9_meshTold_224 : decode cX9_meshTold 224 = .ok (.arraylength, 1) := by decide +kernel
theorem dX9_meshTold_225 : decode cX9_meshTold 225 = .ok (.ireturn, 1) := by decide +kernel
def fX9_meshTold_i (gbe : Int32) (gwo : Int32) (gwr : Int32) (gwk : Int32) (gwc : Int32) (gwg : Int32) (gws : Int32) (gwan : Nat) (gwak : Nat) (gwaG : Nat → Nat → Int32) (gwbn : Nat) (gwbk : Nat) (gwbG : Nat → Nat → Int32) (gBG : Nat → Nat → Int32) (gKG : Nat → Nat → Int32) (gRn : Nat) (gRk : Nat) (i1 : Int32) : Option (Int32) := (if i1 = 0 then some gwr else (if i1 = 1 then some gwk else (if i1 = 2 then some gwc else (if i1 = 3 then some gwg else (if i1 = 4 then ((fX9_one gws).bind fun x_6 => some x_6) else (if i1 = 5 then ((fX8_steps gwk gwg gwan gwak gwaG gwbn gwbk gwbG).bind fun x_11 => some x_11) else (if i1 = 6 then ((fX8_skipped gwk gwg gwan gwak gwaG gwbn gwbk gwbG).bind fun x_16 => some x_16) else (if i1 = 7 then ((fX9_count_i 5 5 gBG).bind fun x_21 => some x_21) else (if i1 = 8 then ((fX9_count_i 5 5 gKG).bind fun x_26 => some x_26) else (if i1 = 9 then some gbe else (if i1 = 10 then some gwo else (if i1 = 11 then ((fX9_one 0).bind fun x_33 => some x_33) else (if i1 = 12 then ((fX9_rest_i).bind fun x_38 => some x_38) else (if i1 = 13 then some (-1) else (if i1 = 14 then some (nI gRn) else (if (nI gRn) = 0 then some 0 else (if ¬ ((0 : Int32) < 0 ∨ gRn ≤ (0 : Int32).toNatClampNeg) then some (nI gRk) else none)))))))))))))))))
abbrev hX9_meshTold : Cond := .code yX9_meshTold cX9_meshTold 2 (some .int)
theorem mX9_meshTold : yM yX9_meshTold hX9_meshTold 1 := ⟨u_1515, u_64, by decide +kernel, by decide +kernel, by decide +kernel⟩
set_option maxHeartbeats 4000000 in
set_option maxRecDepth 100000 in
theorem kX9_meshTold_i (l : Launch) (D : va_G) (cy : Nat → ClassId) (g : Nat) (gth : Int32) (gw : Nat) (gB : Nat) (gK : Nat) (gU : Nat) (gS : Nat) (gbe : Int32) (gwo : Int32) (gta : Int64) (glr : Int32) (glc : Int32) (gti : Int32) (ggo : Int32) (gR : Nat) (gch : Int32) (gD : Nat) (gwr : Int32) (gwk : Int32) (gwc : Int32) (gwg : Int32) (gws : Int32) (gwa : Nat) (gwb : Nat) (gwad : Nat → Nat) (gwan : Nat) (gwak : Nat) (gwaG : Nat → Nat → Int32) (gwbd : Nat → Nat) (gwbn : Nat) (gwbk : Nat) (gwbG : Nat → Nat → Int32) (gBd : Nat → Nat) (gBG : Nat → Nat → Int32) (gKd : Nat → Nat) (gKG : Nat → Nat → Int32) (gRd : Nat → Nat) (gRn : Nat) (gRk : Nat) (gRG : Nat → Nat → Int32) (i1 : Int32) {res : Int32} (hR : fX9_meshTold_i gbe gwo gwr gwk gwc gwg gws gwan gwak gwaG gwbn gwbk gwbG gBG gKG gRn gRk i1 = some res) : YM l D cy yX9_meshTold hX9_meshTold 4 0 0 [.ref g, .int i1] [[(g, .inr (11, [.int gth, .ref gw, .ref gB, .ref gK, .ref gU, .ref gS, .int gbe, .int gwo, .long gta, .null, .int glr, .int glc, .int gti, .int ggo, .ref gR, .int gch, .ref gD]))], [(gw, .inr (10, [.int gwr, .int gwk, .int gwc, .int gwg, .int gws, .ref gwa, .ref gwb]))], [(gwa, .inl (cy 3, gwan, .inr (.inr (.inr (.inr (yad gwad))))))], xg_rows gwad gwan (cy 1) gwak gwaG, [(gwb, .inl (cy 3, gwbn, .inr (.inr (.inr (.inr (yad gwbd))))))], xg_rows gwbd gwbn (cy 1) gwbk gwbG, [(gB, .inl (cy 4, 5, .inr (.inr (.inr (.inr (yad gBd))))))], xg_rows gBd 5 (cy 2) 5 gBG, [(gK, .inl (cy 4, 5, .inr (.inr (.inr (.inr (yad gKd))))))], xg_rows gKd 5 (cy 2) 5 gKG, [(gR, .inl (cy 3, gRn, .inr (.inr (.inr (.inr (yad gRd))))))], xg_rows gRd gRn (cy 1) gRk gRG] (fun v u => v = some (.int res) ∧ u = [[(g, .inr (11, [.int gth, .ref gw, .ref gB, .ref gK, .ref gU, .ref gS, .int gbe, .int gwo, .long gta, .null, .int glr, .int glc, .int gti, .int ggo, .ref gR, .int gch, .ref gD]))], [(gw, .inr (10, [.int gwr, .int gwk, .int gwc, .int gwg, .int gws, .ref gwa, .ref gwb]))], [(gwa, .inl (cy 3, gwan, .inr (.inr (.inr (.inr (yad gwad))))))], xg_rows gwad gwan (cy 1) gwak gwaG, [(gwb, .inl (cy 3, gwbn, .inr (.inr (.inr (.inr (yad gwbd))))))], xg_rows gwbd gwbn (cy 1) gwbk gwbG, [(gB, .inl (cy 4, 5, .inr (.inr (.inr (.inr (yad gBd))))))], xg_rows gBd 5 (cy 2) 5 gBG, [(gK, .inl (cy 4, 5, .inr (.inr (.inr (.inr (yad gKd))))))], xg_rows gKd 5 (cy 2) 5 gKG, [(gR, .inl (cy 3, gRn, .inr (.inr (.inr (.inr (yad gRd))))))], xg_rows gRd gRn (cy 1) gRk gRG]) := by
  unfold fX9_meshTold_i at hR
  refine YM.ofI (cc := cX9_meshTold) (maxL := 2) (ret := (some .int)) (by decide +kernel) rfl (Nat.le_of_ble_eq_true rfl) [(0, .ref g), (1, .int i1)] rfl rfl (fun p e s m args below meth c A H0 Q C hnm ret => ?_)
  refine xr_iload_n (n := 1) (j := 1) C dX9_meshTold_0 rfl rfl ?_
  by_cases c_1 : i1 = 0
  · replace hR := yf_t c_1 hR
    refine xr_tableIn (off := 75) (tgt := 76) C dX9_meshTold_1 (by rw [c_1]; decide) (by rw [c_1]; decide) (by rw [c_1]; decide) rfl ?_
    refine xr_aload_n (n := 77) (j := 0) C dX9_meshTold_76 rfl rfl ?_
    refine xr_get (n := 80) C 0 rfl rfl 1 (by decide) in_X9 u_1238 rfl (v := .ref gw) rfl dX9_meshTold_77 rfl ?_
    refine xr_get (n := 83) C 1 rfl rfl 0 (by decide) in_X8 u_1201 rfl (v := .int gwr) rfl dX9_meshTold_80 rfl ?_
    obtain rfl := Option.some.inj hR
    exact ret gwr ⟨rfl, rfl⟩ (Nat.le_of_ble_eq_true rfl) (Nat.le_of_ble_eq_true rfl) dX9_meshTold_83
  replace hR := yf_f c_1 hR
  by_cases c_2 : i1 = 1
  · replace hR := yf_t c_2 hR
    refine xr_tableIn (off := 83) (tgt := 84) C dX9_meshTold_1 (by rw [c_2]; decide) (by rw [c_2]; decide) (by rw [c_2]; decide) rfl ?_
    refine xr_aload_n (n := 85) (j := 0) C dX9_meshTold_84 rfl rfl ?_
    refine xr_get (n := 88) C 0 rfl rfl 1 (by decide) in_X9 u_1238 rfl (v := .ref gw) rfl dX9_meshTold_85 rfl ?_
    refine xr_get (n := 91) C 1 rfl rfl 1 (by decide) in_X8 u_1202 rfl (v := .int gwk) rfl dX9_meshTold_88 rfl ?_
    obtain rfl := Option.some.inj hR
    exact ret gwk ⟨rfl, rfl⟩ (Nat.le_of_ble_eq_true rfl) (Nat.le_of_ble_eq_true rfl) dX9_meshTold_91
  replace hR := yf_f c_2 hR
  by_cases c_3 : i1 = 2
  · replace hR := yf_t c_3 hR
    refine xr_tableIn (off := 91) (tgt := 92) C dX9_meshTold_1 (by rw [c_3]; decide) (by rw [c_3]; decide) (by rw [c_3]; decide) rfl ?_
    refine xr_aload_n (n := 93) (j := 0) C dX9_meshTold_92 rfl rfl ?_
    refine xr_get (n := 96) C 0 rfl rfl 1 (by decide) in_X9 u_1238 rfl (v := .ref gw) rfl dX9_meshTold_93 rfl ?_
    refine xr_get (n := 99) C 1 rfl rfl 2 (by decide) in_X8 u_1205 rfl (v := .int gwc) rfl dX9_meshTold_96 rfl ?_
    obtain rfl := Option.some.inj hR
    exact ret gwc ⟨rfl, rfl⟩ (Nat.le_of_ble_eq_true rfl) (Nat.le_of_ble_eq_true rfl) dX9_meshTold_99
  replace hR := yf_f c_3 hR
  by_cases c_4 : i1 = 3
  · replace hR := yf_t c_4 hR
    refine xr_tableIn (off := 99) (tgt := 100) C dX9_meshTold_1 (by rw [c_4]; decide) (by rw [c_4]; decide) (by rw [c_4]; decide) rfl ?_
    refine xr_aload_n (n := 101) (j := 0) C dX9_meshTold_100 rfl rfl ?_
    refine xr_get (n := 104) C 0 rfl rfl 1 (by decide) in_X9 u_1238 rfl (v := .ref gw) rfl dX9_meshTold_101 rfl ?_
    refine xr_get (n := 107) C 1 rfl rfl 3 (by decide) in_X8 u_1207 rfl (v := .int gwg) rfl dX9_meshTold_104 rfl ?_
    obtain rfl := Option.some.inj hR
    exact ret gwg ⟨rfl, rfl⟩ (Nat.le_of_ble_eq_true rfl) (Nat.le_of_ble_eq_true rfl) dX9_meshTold_107
  replace hR := yf_f c_4 hR
  by_cases c_5 : i1 = 4
  · replace hR := yf_t c_5 hR
    refine xr_tableIn (off := 107) (tgt := 108) C dX9_meshTold_1 (by rw [c_5]; decide) (by rw [c_5]; decide) (by rw [c_5]; decide) rfl ?_
    refine xr_aload_n (n := 109) (j := 0) C dX9_meshTold_108 rfl rfl ?_
    refine xr_get (n := 112) C 0 rfl rfl 1 (by decide) in_X9 u_1238 rfl (v := .ref gw) rfl dX9_meshTold_109 rfl ?_
    refine xr_get (n := 115) C 1 rfl rfl 4 (by decide) in_X8 u_1209 rfl (v := .int gws) rfl dX9_meshTold_112 rfl ?_
    obtain ⟨x_6, hx_6, hR⟩ := yf_b hR
    refine xr_callSp (n := 118) (As := [.int gws]) (rest := []) C (kX9_one l D cy (i1 := gws) hx_6) mX9_one u_1312 u_1313 12 [] [0, 1, 2, 3, 4, 5, 6, 7, 8, 9, 10, 11] rfl (by decide +kernel) rfl rfl rfl rfl (Nat.le_of_ble_eq_true rfl) (Nat.le_of_ble_eq_true rfl) (Nat.le_of_ble_eq_true rfl) (Nat.le_of_ble_eq_true rfl) (Nat.le_of_ble_eq_true rfl) dX9_meshTold_115 rfl (fun _ _ hp => hp.2) (fun v_7 hp_9 => ?_)
    obtain ⟨rfl, -⟩ := hp_9
    refine xr_st (st' := [.int x_6]) rfl ?_
    obtain rfl := Option.some.inj hR
    exact ret x_6 ⟨rfl, rfl⟩ (Nat.le_of_ble_eq_true rfl) (Nat.le_of_ble_eq_true rfl) dX9_meshTold_118
  replace hR := yf_f c_5 hR
  by_cases c_10 : i1 = 5
  · replace hR := yf_t c_10 hR
    refine xr_tableIn (off := 118) (tgt := 119) C dX9_meshTold_1 (by rw [c_10]; decide) (by rw [c_10]; decide) (by rw [c_10]; decide) rfl ?_
    refine xr_aload_n (n := 120) (j := 0) C dX9_meshTold_119 rfl rfl ?_
    refine xr_get (n := 123) C 0 rfl rfl 1 (by decide) in_X9 u_1238 rfl (v := .ref gw) rfl dX9_meshTold_120 rfl ?_
    obtain ⟨x_11, hx_11, hR⟩ := yf_b hR
    refine xr_callVp (n := 126) (As := []) (rest := []) C (kX8_steps l D cy (w := gw) (wr := gwr) (wk := gwk) (wc := gwc) (wg := gwg) (ws := gws) (wa := gwa) (wb := gwb) (wad := gwad) (wan := gwan) (wak := gwak) (waG := gwaG) (wbd := gwbd) (wbn := gwbn) (wbk := gwbk) (wbG := gwbG) hx_11) mX8_steps u_1359 u_1360 u_1361 1 rfl rfl 12 [1, 2, 3, 4, 5] [0, 6, 7, 8, 9, 10, 11] rfl (by decide +kernel) rfl rfl rfl rfl (Nat.le_of_ble_eq_true rfl) (Nat.le_of_ble_eq_true rfl) (Nat.le_of_ble_eq_true rfl) (Nat.le_of_ble_eq_true rfl) (Nat.le_of_ble_eq_true rfl) dX9_meshTold_123 rfl (fun _ _ hp => hp.2) (fun v_12 hp_14 => ?_)
    obtain ⟨rfl, -⟩ := hp_14
    refine xr_st (st' := [.int x_11]) rfl ?_
    obtain rfl := Option.some.inj hR
    exact ret x_11 ⟨rfl, rfl⟩ (Nat.le_of_ble_eq_true rfl) (Nat.le_of_ble_eq_true rfl) dX9_meshTold_126
  replace hR := yf_f c_10 hR
  by_cases c_15 : i1 = 6
  · replace hR := yf_t c_15 hR
    refine xr_tableIn (off := 126) (tgt := 127) C dX9_meshTold_1 (by rw [c_15]; decide) (by rw [c_15]; decide) (by rw [c_15]; decide) rfl ?_
    refine xr_aload_n (n := 128) (j := 0) C dX9_meshTold_127 rfl rfl ?_
    refine xr_get (n := 131) C 0 rfl rfl 1 (by decide) in_X9 u_1238 rfl (v := .ref gw) rfl dX9_meshTold_128 rfl ?_
    obtain ⟨x_16, hx_16, hR⟩ := yf_b hR
    refine xr_callVp (n := 134) (As := []) (rest := []) C (kX8_skipped l D cy (w := gw) (wr := gwr) (wk := gwk) (wc := gwc) (wg := gwg) (ws := gws) (wa := gwa) (wb := gwb) (wad := gwad) (wan := gwan) (wak := gwak) (waG := gwaG) (wbd := gwbd) (wbn := gwbn) (wbk := gwbk) (wbG := gwbG) hx_16) mX8_skipped u_1442 u_1364 u_1365 1 rfl rfl 12 [1, 2, 3, 4, 5] [0, 6, 7, 8, 9, 10, 11] rfl (by decide +kernel) rfl rfl rfl rfl (Nat.le_of_ble_eq_true rfl) (Nat.le_of_ble_eq_true rfl) (Nat.le_of_ble_eq_true rfl) (Nat.le_of_ble_eq_true rfl) (Nat.le_of_ble_eq_true rfl) dX9_meshTold_131 rfl (fun _ _ hp => hp.2) (fun v_17 hp_19 => ?_)
    obtain ⟨rfl, -⟩ := hp_19
    refine xr_st (st' := [.int x_16]) rfl ?_
    obtain rfl := Option.some.inj hR
    exact ret x_16 ⟨rfl, rfl⟩ (Nat.le_of_ble_eq_true rfl) (Nat.le_of_ble_eq_true rfl) dX9_meshTold_134
  replace hR := yf_f c_15 hR
  by_cases c_20 : i1 = 7
  · replace hR := yf_t c_20 hR
    refine xr_tableIn (off := 134) (tgt := 135) C dX9_meshTold_1 (by rw [c_20]; decide) (by rw [c_20]; decide) (by rw [c_20]; decide) rfl ?_
    refine xr_aload_n (n := 136) (j := 0) C dX9_meshTold_135 rfl rfl ?_
    refine xr_aload_n (n := 137) (j := 0) C dX9_meshTold_136 rfl rfl ?_
    refine xr_get (n := 140) C 0 rfl rfl 2 (by decide) in_X9 u_1239 rfl (v := .ref gB) rfl dX9_meshTold_137 rfl ?_
    obtain ⟨x_21, hx_21, hR⟩ := yf_b hR
    refine xr_callVp (n := 143) (As := [.ref gB]) (rest := []) C (kX9_count_i l D cy (g := g) (gth := gth) (gw := gw) (gB := gB) (gK := gK) (gU := gU) (gS := gS) (gbe := gbe) (gwo := gwo) (gta := gta) (glr := glr) (glc := glc) (gti := gti) (ggo := ggo) (gR := gR) (gch := gch) (gD := gD) (h := gB) (hd := gBd) (hn := 5) (hk := 5) (hG := gBG) hx_21) mX9_count u_1338 u_1340 u_31 0 rfl rfl 12 [0, 6, 7] [1, 2, 3, 4, 5, 8, 9, 10, 11] rfl (by decide +kernel) rfl rfl rfl rfl (Nat.le_of_ble_eq_true rfl) (Nat.le_of_ble_eq_true rfl) (Nat.le_of_ble_eq_true rfl) (Nat.le_of_ble_eq_true rfl) (Nat.le_of_ble_eq_true rfl) dX9_meshTold_140 rfl (fun _ _ hp => hp.2) (fun v_22 hp_24 => ?_)
    obtain ⟨rfl, -⟩ := hp_24
    refine xr_st (st' := [.int x_21]) rfl ?_
    obtain rfl := Option.some.inj hR
    exact ret x_21 ⟨rfl, rfl⟩ (Nat.le_of_ble_eq_true rfl) (Nat.le_of_ble_eq_true rfl) dX9_meshTold_143
  replace hR := yf_f c_20 hR
  by_cases c_25 : i1 = 8
  · replace hR := yf_t c_25 hR
    refine xr_tableIn (off := 143) (tgt := 144) C dX9_meshTold_1 (by rw [c_25]; decide) (by rw [c_25]; decide) (by rw [c_25]; decide) rfl ?_
    refine xr_aload_n (n := 145) (j := 0) C dX9_meshTold_144 rfl rfl ?_
    refine xr_aload_n (n := 146) (j := 0) C dX9_meshTold_145 rfl rfl ?_
    refine xr_get (n := 149) C 0 rfl rfl 3 (by decide) in_X9 u_1240 rfl (v := .ref gK) rfl dX9_meshTold_146 rfl ?_
    obtain ⟨x_26, hx_26, hR⟩ := yf_b hR
    refine xr_callVp (n := 152) (As := [.ref gK]) (rest := []) C (kX9_count_i l D cy (g := g) (gth := gth) (gw := gw) (gB := gB) (gK := gK) (gU := gU) (gS := gS) (gbe := gbe) (gwo := gwo) (gta := gta) (glr := glr) (glc := glc) (gti := gti) (ggo := ggo) (gR := gR) (gch := gch) (gD := gD) (h := gK) (hd := gKd) (hn := 5) (hk := 5) (hG := gKG) hx_26) mX9_count u_1338 u_1340 u_31 0 rfl rfl 12 [0, 8, 9] [1, 2, 3, 4, 5, 6, 7, 10, 11] rfl (by decide +kernel) rfl rfl rfl rfl (Nat.le_of_ble_eq_true rfl) (Nat.le_of_ble_eq_true rfl) (Nat.le_of_ble_eq_true rfl) (Nat.le_of_ble_eq_true rfl) (Nat.le_of_ble_eq_true rfl) dX9_meshTold_149 rfl (fun _ _ hp => hp.2) (fun v_27 hp_29 => ?_)
    obtain ⟨rfl, -⟩ := hp_29
    refine xr_st (st' := [.int x_26]) rfl ?_
    obtain rfl := Option.some.inj hR
    exact ret x_26 ⟨rfl, rfl⟩ (Nat.le_of_ble_eq_true rfl) (Nat.le_of_ble_eq_true rfl) dX9_meshTold_152
  replace hR := yf_f c_25 hR
  by_cases c_30 : i1 = 9
  · replace hR := yf_t c_30 hR
    refine xr_tableIn (off := 152) (tgt := 153) C dX9_meshTold_1 (by rw [c_30]; decide) (by rw [c_30]; decide) (by rw [c_30]; decide) rfl ?_
    refine xr_aload_n (n := 154) (j := 0) C dX9_meshTold_153 rfl rfl ?_
    refine xr_get (n := 157) C 0 rfl rfl 6 (by decide) in_X9 u_1243 rfl (v := .int gbe) rfl dX9_meshTold_154 rfl ?_
    obtain rfl := Option.some.inj hR
    exact ret gbe ⟨rfl, rfl⟩ (Nat.le_of_ble_eq_true rfl) (Nat.le_of_ble_eq_true rfl) dX9_meshTold_157
  replace hR := yf_f c_30 hR
  by_cases c_31 : i1 = 10
  · replace hR := yf_t c_31 hR
    refine xr_tableIn (off := 157) (tgt := 158) C dX9_meshTold_1 (by rw [c_31]; decide) (by rw [c_31]; decide) (by rw [c_31]; decide) rfl ?_
    refine xr_aload_n (n := 159) (j := 0) C dX9_meshTold_158 rfl rfl ?_
    refine xr_get (n := 162) C 0 rfl rfl 7 (by decide) in_X9 u_1244 rfl (v := .int gwo) rfl dX9_meshTold_159 rfl ?_
    obtain rfl := Option.some.inj hR
    exact ret gwo ⟨rfl, rfl⟩ (Nat.le_of_ble_eq_true rfl) (Nat.le_of_ble_eq_true rfl) dX9_meshTold_162
  replace hR := yf_f c_31 hR
  by_cases c_32 : i1 = 11
  · replace hR := yf_t c_32 hR
    refine xr_tableIn (off := 162) (tgt := 163) C dX9_meshTold_1 (by rw [c_32]; decide) (by rw [c_32]; decide) (by rw [c_32]; decide) rfl ?_
    refine xr_aload_n (n := 164) (j := 0) C dX9_meshTold_163 rfl rfl ?_
    refine xr_get (n := 167) C 0 rfl rfl 9 (by decide) in_X9 u_1246 rfl (v := .null) rfl dX9_meshTold_164 rfl ?_
    refine xr_ifnullN (tgt := 174) C dX9_meshTold_167 rfl ?_
    refine xr_iconst (n := 175) (v := 0) C dX9_meshTold_174 rfl rfl ?_
    obtain ⟨x_33, hx_33, hR⟩ := yf_b hR
    refine xr_callSp (n := 178) (As := [.int 0]) (rest := []) C (kX9_one l D cy (i1 := 0) hx_33) mX9_one u_1312 u_1313 12 [] [0, 1, 2, 3, 4, 5, 6, 7, 8, 9, 10, 11] rfl (by decide +kernel) rfl rfl rfl rfl (Nat.le_of_ble_eq_true rfl) (Nat.le_of_ble_eq_true rfl) (Nat.le_of_ble_eq_true rfl) (Nat.le_of_ble_eq_true rfl) (Nat.le_of_ble_eq_true rfl) dX9_meshTold_175 rfl (fun _ _ hp => hp.2) (fun v_34 hp_36 => ?_)
    obtain ⟨rfl, -⟩ := hp_36
    refine xr_st (st' := [.int x_33]) rfl ?_
    obtain rfl := Option.some.inj hR
    exact ret x_33 ⟨rfl, rfl⟩ (Nat.le_of_ble_eq_true rfl) (Nat.le_of_ble_eq_true rfl) dX9_meshTold_178
  replace hR := yf_f c_32 hR
  by_cases c_37 : i1 = 12
  · replace hR := yf_t c_37 hR
    refine xr_tableIn (off := 178) (tgt := 179) C dX9_meshTold_1 (by rw [c_37]; decide) (by rw [c_37]; decide) (by rw [c_37]; decide) rfl ?_
    refine xr_aload_n (n := 180) (j := 0) C dX9_meshTold_179 rfl rfl ?_
    obtain ⟨x_38, hx_38, hR⟩ := yf_b hR
    refine xr_callVp (n := 183) (As := []) (rest := []) C (kX9_rest_i l D cy (g := g) (gth := gth) (gw := gw) (gB := gB) (gK := gK) (gU := gU) (gS := gS) (gbe := gbe) (gwo := gwo) (gta := gta) (glr := glr) (glc := glc) (gti := gti) (ggo := ggo) (gR := gR) (gch := gch) (gD := gD) hx_38) mX9_left_ u_1418 u_1420 u_35 0 rfl rfl 12 [0] [1, 2, 3, 4, 5, 6, 7, 8, 9, 10, 11] rfl (by decide +kernel) rfl rfl rfl rfl (Nat.le_of_ble_eq_true rfl) (Nat.le_of_ble_eq_true rfl) (Nat.le_of_ble_eq_true rfl) (Nat.le_of_ble_eq_true rfl) (Nat.le_of_ble_eq_true rfl) dX9_meshTold_180 rfl (fun _ _ hp => hp.2) (fun v_39 hp_41 => ?_)
    obtain ⟨rfl, -⟩ := hp_41
    refine xr_st (st' := [.int x_38]) rfl ?_
    obtain rfl := Option.some.inj hR
    exact ret x_38 ⟨rfl, rfl⟩ (Nat.le_of_ble_eq_true rfl) (Nat.le_of_ble_eq_true rfl) dX9_meshTold_183
  replace hR := yf_f c_37 hR
  by_cases c_42 : i1 = 13
  · replace hR := yf_t c_42 hR
    refine xr_tableIn (off := 183) (tgt := 184) C dX9_meshTold_1 (by rw [c_42]; decide) (by rw [c_42]; decide) (by rw [c_42]; decide) rfl ?_
    refine xr_aload_n (n := 185) (j := 0) C dX9_meshTold_184 rfl rfl ?_
    refine xr_get (n := 188) C 0 rfl rfl 9 (by decide) in_X9 u_1246 rfl (v := .null) rfl dX9_meshTold_185 rfl ?_
    refine xr_ifnonnullN (n := 191) C dX9_meshTold_188 rfl ?_
    refine xr_iconst (n := 192) (v := -1) C dX9_meshTold_191 rfl rfl ?_
    refine xr_goto (tgt := 199) C dX9_meshTold_192 rfl ?_
    obtain rfl := Option.some.inj hR
    exact ret (-1) ⟨rfl, rfl⟩ (Nat.le_of_ble_eq_true rfl) (Nat.le_of_ble_eq_true rfl) dX9_meshTold_199
  replace hR := yf_f c_42 hR
  by_cases c_43 : i1 = 14
  · replace hR := yf_t c_43 hR
    refine xr_tableIn (off := 199) (tgt := 200) C dX9_meshTold_1 (by rw [c_43]; decide) (by rw [c_43]; decide) (by rw [c_43]; decide) rfl ?_
    refine xr_aload_n (n := 201) (j := 0) C dX9_meshTold_200 rfl rfl ?_
    refine xr_get (n := 204) C 0 rfl rfl 14 (by decide) in_X9 u_1251 rfl (v := .ref gR) rfl dX9_meshTold_201 rfl ?_
    refine xr_alen (n := 205) C 10 0 rfl 3 rfl rfl dX9_meshTold_204 rfl ?_
    obtain rfl := Option.some.inj hR
    exact ret (nI gRn) ⟨rfl, rfl⟩ (Nat.le_of_ble_eq_true rfl) (Nat.le_of_ble_eq_true rfl) dX9_meshTold_205
  replace hR := yf_f c_43 hR
  refine xr_tableOut (tgt := 206) C dX9_meshTold_1 (ytab_out (fun k h1 h2 => by
    rcases (show k = 0 ∨ k = 1 ∨ k = 2 ∨ k = 3 ∨ k = 4 ∨ k = 5 ∨ k = 6 ∨ k = 7 ∨ k = 8 ∨ k = 9 ∨ k = 10 ∨ k = 11 ∨ k = 12 ∨ k = 13 ∨ k = 14 by omega) with rfl | rfl | rfl | rfl | rfl | rfl | rfl | rfl | rfl | rfl | rfl | rfl | rfl | rfl | rfl
    · exact c_1
    · exact c_2
    · exact c_3
    · exact c_4
    · exact c_5
    · exact c_10
    · exact c_15
    · exact c_20
    · exact c_25
    · exact c_30
    · exact c_31
    · exact c_32
    · exact c_37
    · exact c_42
    · exact c_43)) rfl ?_
  refine xr_aload_n (n := 207) (j := 0) C dX9_meshTold_206 rfl rfl ?_
  refine xr_get (n := 210) C 0 rfl rfl 14 (by decide) in_X9 u_1251 rfl (v := .ref gR) rfl dX9_meshTold_207 rfl ?_
  refine xr_alen (n := 211) C 10 0 rfl 3 rfl rfl dX9_meshTold_210 rfl ?_
  refine xr_if_ne (tgt := 218) (n := 214) C dX9_meshTold_211 rfl rfl (fun c_44 => ?_) (fun c_44 => ?_)
  · replace hR := yf_f c_44 hR
    refine xr_aload_n (n := 219) (j := 0) C dX9_meshTold_218 rfl rfl ?_
    refine xr_get (n := 222) C 0 rfl rfl 14 (by decide) in_X9 u_1251 rfl (v := .ref gR) rfl dX9_meshTold_219 rfl ?_
    refine xr_iconst (n := 223) (v := 0) C dX9_meshTold_222 rfl rfl ?_
    obtain ⟨g_45, hR⟩ := yf_g hR
    refine xr_aald (n := 224) C 10 0 rfl 3 rfl rfl g_45 rfl dX9_meshTold_223 rfl ?_
    refine xr_aleng (n := 225) C 11 1 rfl ((0 : Int32).toNatClampNeg) (ylt g_45) rfl dX9_meshTold_224 rfl ?_
    obtain rfl := Option.some.inj hR
    exact ret (nI gRk) ⟨rfl, rfl⟩ (Nat.le_of_ble_eq_true rfl) (Nat.le_of_ble_eq_true rfl) dX9_meshTold_225
  · replace hR := yf_t c_44 hR
    refine xr_iconst (n := 215) (v := 0) C dX9_meshTold_214 rfl rfl ?_
    refine xr_goto (tgt := 225) C dX9_meshTold_215 rfl ?_
    obtain rfl := Option.some.inj hR
    exact ret 0 ⟨rfl, rfl⟩ (Nat.le_of_ble_eq_true rfl) (Nat.le_of_ble_eq_true rfl) dX9_meshTold_225
def fX9_meshTold_r (gbe : Int32) (gwo : Int32) (glr : Int32) (glc : Int32) (gti : Int32) (ggo : Int32) (gwr : Int32) (gwk : Int32) (gwc : Int32) (gwg : Int32) (gws : Int32) (gwan : Nat) (gwak : Nat) (gwaG : Nat → Nat → Int32) (gwbn : Nat) (gwbk : Nat) (gwbG : Nat → Nat → Int32) (gBG : Nat → Nat → Int32) (gKG : Nat → Nat → Int32) (gRn : Nat) (gRk : Nat) (gnr : Int32) (gnk : Int32) (gnc : Int32) (gng : Int32) (gns : Int32) (gnan : Nat) (gnak : Nat) (gnaG : Nat → Nat → Int32) (gnbn : Nat) (gnbk : Nat) (gnbG : Nat → Nat → Int32) (i1 : Int32) : Option (Int32) := (if i1 = 0 then some gwr else (if i1 = 1 then some gwk else (if i1 = 2 then some gwc else (if i1 = 3 then some gwg else (if i1 = 4 then ((fX9_one gws).bind fun x_6 => some x_6) else (if i1 = 5 then ((fX8_steps gwk gwg gwan gwak gwaG gwbn gwbk gwbG).bind fun x_11 => some x_11) else (if i1 = 6 then ((fX8_skipped gwk gwg gwan gwak gwaG gwbn gwbk gwbG).bind fun x_16 => some x_16) else (if i1 = 7 then ((fX9_count_r 5 5 gBG).bind fun x_21 => some x_21) else (if i1 = 8 then ((fX9_count_r 5 5 gKG).bind fun x_26 => some x_26) else (if i1 = 9 then some gbe else (if i1 = 10 then some gwo else (if i1 = 11 then ((fX9_one 1).bind fun x_33 => some x_33) else (if i1 = 12 then ((fX9_rest_r glr glc gti ggo gnr gnk gnc gng gns gnan gnak gnaG gnbn gnbk gnbG).bind fun x_38 => some x_38) else (if i1 = 13 then some gti else (if i1 = 14 then some (nI gRn) else (if (nI gRn) = 0 then some 0 else (if ¬ ((0 : Int32) < 0 ∨ gRn ≤ (0 : Int32).toNatClampNeg) then some (nI gRk) else none)))))))))))))))))
set_option maxHeartbeats 4000000 in
set_option maxRecDepth 100000 in
theorem kX9_meshTold_r (l : Launch) (D : va_G) (cy : Nat → ClassId) (g : Nat) (gth : Int32) (gw : Nat) (gB : Nat) (gK : Nat) (gU : Nat) (gS : Nat) (gbe : Int32) (gwo : Int32) (gta : Int64) (gn : Nat) (glr : Int32) (glc : Int32) (gti : Int32) (ggo : Int32) (gR : Nat) (gch : Int32) (gD : Nat) (gwr : Int32) (gwk : Int32) (gwc : Int32) (gwg : Int32) (gws : Int32) (gwa : Nat) (gwb : Nat) (gwad : Nat → Nat) (gwan : Nat) (gwak : Nat) (gwaG : Nat → Nat → Int32) (gwbd : Nat → Nat) (gwbn : Nat) (gwbk : Nat) (gwbG : Nat → Nat → Int32) (gBd : Nat → Nat) (gBG : Nat → Nat → Int32) (gKd : Nat → Nat) (gKG : Nat → Nat → Int32) (gRd : Nat → Nat) (gRn : Nat) (gRk : Nat) (gRG : Nat → Nat → Int32) (gnr : Int32) (gnk : Int32) (gnc : Int32) (gng : Int32) (gns : Int32) (gna : Nat) (gnb : Nat) (gnad : Nat → Nat) (gnan : Nat) (gnak : Nat) (gnaG : Nat → Nat → Int32) (gnbd : Nat → Nat) (gnbn : Nat) (gnbk : Nat) (gnbG : Nat → Nat → Int32) (i1 : Int32) {res : Int32} (hR : fX9_meshTold_r gbe gwo glr glc gti ggo gwr gwk gwc gwg gws gwan gwak gwaG gwbn gwbk gwbG gBG gKG gRn gRk gnr gnk gnc gng gns gnan gnak gnaG gnbn gnbk gnbG i1 = some res) : YM l D cy yX9_meshTold hX9_meshTold 6 0 0 [.ref g, .int i1] [[(g, .inr (11, [.int gth, .ref gw, .ref gB, .ref gK, .ref gU, .ref gS, .int gbe, .int gwo, .long gta, .ref gn, .int glr, .int glc, .int gti, .int ggo, .ref gR, .int gch, .ref gD]))], [(gw, .inr (10, [.int gwr, .int gwk, .int gwc, .int gwg, .int gws, .ref gwa, .ref gwb]))], [(gwa, .inl (cy 3, gwan, .inr (.inr (.inr (.inr (yad gwad))))))], xg_rows gwad gwan (cy 1) gwak gwaG, [(gwb, .inl (cy 3, gwbn, .inr (.inr (.inr (.inr (yad gwbd))))))], xg_rows gwbd gwbn (cy 1) gwbk gwbG, [(gB, .inl (cy 4, 5, .inr (.inr (.inr (.inr (yad gBd))))))], xg_rows gBd 5 (cy 2) 5 gBG, [(gK, .inl (cy 4, 5, .inr (.inr (.inr (.inr (yad gKd))))))], xg_rows gKd 5 (cy 2) 5 gKG, [(gR, .inl (cy 3, gRn, .inr (.inr (.inr (.inr (yad gRd))))))], xg_rows gRd gRn (cy 1) gRk gRG, [(gn, .inr (10, [.int gnr, .int gnk, .int gnc, .int gng, .int gns, .ref gna, .ref gnb]))], [(gna, .inl (cy 3, gnan, .inr (.inr (.inr (.inr (yad gnad))))))], xg_rows gnad gnan (cy 1) gnak gnaG, [(gnb, .inl (cy 3, gnbn, .inr (.inr (.inr (.inr (yad gnbd))))))], xg_rows gnbd gnbn (cy 1) gnbk gnbG] (fun v u => v = some (.int res) ∧ u = [[(g, .inr (11, [.int gth, .ref gw, .ref gB, .ref gK, .ref gU, .ref gS, .int gbe, .int gwo, .long gta, .ref gn, .int glr, .int glc, .int gti, .int ggo, .ref gR, .int gch, .ref gD]))], [(gw, .inr (10, [.int gwr, .int gwk, .int gwc, .int gwg, .int gws, .ref gwa, .ref gwb]))], [(gwa, .inl (cy 3, gwan, .inr (.inr (.inr (.inr (yad gwad))))))], xg_rows gwad gwan (cy 1) gwak gwaG, [(gwb, .inl (cy 3, gwbn, .inr (.inr (.inr (.inr (yad gwbd))))))], xg_rows gwbd gwbn (cy 1) gwbk gwbG, [(gB, .inl (cy 4, 5, .inr (.inr (.inr (.inr (yad gBd))))))], xg_rows gBd 5 (cy 2) 5 gBG, [(gK, .inl (cy 4, 5, .inr (.inr (.inr (.inr (yad gKd))))))], xg_rows gKd 5 (cy 2) 5 gKG, [(gR, .inl (cy 3, gRn, .inr (.inr (.inr (.inr (yad gRd))))))], xg_rows gRd gRn (cy 1) gRk gRG, [(gn, .inr (10, [.int gnr, .int gnk, .int gnc, .int gng, .int gns, .ref gna, .ref gnb]))], [(gna, .inl (cy 3, gnan, .inr (.inr (.inr (.inr (yad gnad))))))], xg_rows gnad gnan (cy 1) gnak gnaG, [(gnb, .inl (cy 3, gnbn, .inr (.inr (.inr (.inr (yad gnbd))))))], xg_rows gnbd gnbn (cy 1) gnbk gnbG]) := by
  unfold fX9_meshTold_r at hR
  refine YM.ofI (cc := cX9_meshTold) (maxL := 2) (ret := (some .int)) (by decide +kernel) rfl (Nat.le_of_ble_eq_true rfl) [(0, .ref g), (1, .int i1)] rfl rfl (fun p e s m args below meth c A H0 Q C hnm ret => ?_)
  refine xr_iload_n (n := 1) (j := 1) C dX9_meshTold_0 rfl rfl ?_
  by_cases c_1 : i1 = 0
  · replace hR := yf_t c_1 hR
    refine xr_tableIn (off := 75) (tgt := 76) C dX9_meshTold_1 (by rw [c_1]; decide) (by rw [c_1]; decide) (by rw [c_1]; decide) rfl ?_
    refine xr_aload_n (n := 77) (j := 0) C dX9_meshTold_76 rfl rfl ?_
    refine xr_get (n := 80) C 0 rfl rfl 1 (by decide) in_X9 u_1238 rfl (v := .ref gw) rfl dX9_meshTold_77 rfl ?_
    refine xr_get (n := 83) C 1 rfl rfl 0 (by decide) in_X8 u_1201 rfl (v := .int gwr) rfl dX9_meshTold_80 rfl ?_
    obtain rfl := Option.some.inj hR
    exact ret gwr ⟨rfl, rfl⟩ (Nat.le_of_ble_eq_true rfl) (Nat.le_of_ble_eq_true rfl) dX9_meshTold_83
  replace hR := yf_f c_1 hR
  by_cases c_2 : i1 = 1
  · replace hR := yf_t c_2 hR
    refine xr_tableIn (off := 83) (tgt := 84) C dX9_meshTold_1 (by rw [c_2]; decide) (by rw [c_2]; decide) (by rw [c_2]; decide) rfl ?_
    refine xr_aload_n (n := 85) (j := 0) C dX9_meshTold_84 rfl rfl ?_
    refine xr_get (n := 88) C 0 rfl rfl 1 (by decide) in_X9 u_1238 rfl (v := .ref gw) rfl dX9_meshTold_85 rfl ?_
    refine xr_get (n := 91) C 1 rfl rfl 1 (by decide) in_X8 u_1202 rfl (v := .int gwk) rfl dX9_meshTold_88 rfl ?_
    obtain rfl := Option.some.inj hR
    exact ret gwk ⟨rfl, rfl⟩ (Nat.le_of_ble_eq_true rfl) (Nat.le_of_ble_eq_true rfl) dX9_meshTold_91
  replace hR := yf_f c_2 hR
  by_cases c_3 : i1 = 2
  · replace hR := yf_t c_3 hR
    refine xr_tableIn (off := 91) (tgt := 92) C dX9_meshTold_1 (by rw [c_3]; decide) (by rw [c_3]; decide) (by rw [c_3]; decide) rfl ?_
    refine xr_aload_n (n := 93) (j := 0) C dX9_meshTold_92 rfl rfl ?_
    refine xr_get (n := 96) C 0 rfl rfl 1 (by decide) in_X9 u_1238 rfl (v := .ref gw) rfl dX9_meshTold_93 rfl ?_
    refine xr_get (n := 99) C 1 rfl rfl 2 (by decide) in_X8 u_1205 rfl (v := .int gwc) rfl dX9_meshTold_96 rfl ?_
    obtain rfl := Option.some.inj hR
    exact ret gwc ⟨rfl, rfl⟩ (Nat.le_of_ble_eq_true rfl) (Nat.le_of_ble_eq_true rfl) dX9_meshTold_99
  replace hR := yf_f c_3 hR
  by_cases c_4 : i1 = 3
  · replace hR := yf_t c_4 hR
    refine xr_tableIn (off := 99) (tgt := 100) C dX9_meshTold_1 (by rw [c_4]; decide) (by rw [c_4]; decide) (by rw [c_4]; decide) rfl ?_
    refine xr_aload_n (n := 101) (j := 0) C dX9_meshTold_100 rfl rfl ?_
    refine xr_get (n := 104) C 0 rfl rfl 1 (by decide) in_X9 u_1238 rfl (v := .ref gw) rfl dX9_meshTold_101 rfl ?_
    refine xr_get (n := 107) C 1 rfl rfl 3 (by decide) in_X8 u_1207 rfl (v := .int gwg) rfl dX9_meshTold_104 rfl ?_
    obtain rfl := Option.some.inj hR
    exact ret gwg ⟨rfl, rfl⟩ (Nat.le_of_ble_eq_true rfl) (Nat.le_of_ble_eq_true rfl) dX9_meshTold_107
  replace hR := yf_f c_4 hR
  by_cases c_5 : i1 = 4
  · replace hR := yf_t c_5 hR
    refine xr_tableIn (off := 107) (tgt := 108) C dX9_meshTold_1 (by rw [c_5]; decide) (by rw [c_5]; decide) (by rw [c_5]; decide) rfl ?_
    refine xr_aload_n (n := 109) (j := 0) C dX9_meshTold_108 rfl rfl ?_
    refine xr_get (n := 112) C 0 rfl rfl 1 (by decide) in_X9 u_1238 rfl (v := .ref gw) rfl dX9_meshTold_109 rfl ?_
    refine xr_get (n := 115) C 1 rfl rfl 4 (by decide) in_X8 u_1209 rfl (v := .int gws) rfl dX9_meshTold_112 rfl ?_
    obtain ⟨x_6, hx_6, hR⟩ := yf_b hR
    refine xr_callSp (n := 118) (As := [.int gws]) (rest := []) C (kX9_one l D cy (i1 := gws) hx_6) mX9_one u_1312 u_1313 17 [] [0, 1, 2, 3, 4, 5, 6, 7, 8, 9, 10, 11, 12, 13, 14, 15, 16] rfl (by decide +kernel) rfl rfl rfl rfl (Nat.le_of_ble_eq_true rfl) (Nat.le_of_ble_eq_true rfl) (Nat.le_of_ble_eq_true rfl) (Nat.le_of_ble_eq_true rfl) (Nat.le_of_ble_eq_true rfl) dX9_meshTold_115 rfl (fun _ _ hp => hp.2) (fun v_7 hp_9 => ?_)
    obtain ⟨rfl, -⟩ := hp_9
    refine xr_st (st' := [.int x_6]) rfl ?_
    obtain rfl := Option.some.inj hR
    exact ret x_6 ⟨rfl, rfl⟩ (Nat.le_of_ble_eq_true rfl) (Nat.le_of_ble_eq_true rfl) dX9_meshTold_118
  replace hR := yf_f c_5 hR
  by_cases c_10 : i1 = 5
  · replace hR := yf_t c_10 hR
    refine xr_tableIn (off := 118) (tgt := 119) C dX9_meshTold_1 (by rw [c_10]; decide) (by rw [c_10]; decide) (by rw [c_10]; decide) rfl ?_
    refine xr_aload_n (n := 120) (j := 0) C dX9_meshTold_119 rfl rfl ?_
    refine xr_get (n := 123) C 0 rfl rfl 1 (by decide) in_X9 u_1238 rfl (v := .ref gw) rfl dX9_meshTold_120 rfl ?_
    obtain ⟨x_11, hx_11, hR⟩ := yf_b hR
    refine xr_callVp (n := 126) (As := []) (rest := []) C (kX8_steps l D cy (w := gw) (wr := gwr) (wk := gwk) (wc := gwc) (wg := gwg) (ws := gws) (wa := gwa) (wb := gwb) (wad := gwad) (wan := gwan) (wak := gwak) (waG := gwaG) (wbd := gwbd) (wbn := gwbn) (wbk := gwbk) (wbG := gwbG) hx_11) mX8_steps u_1359 u_1360 u_1361 1 rfl rfl 17 [1, 2, 3, 4, 5] [0, 6, 7, 8, 9, 10, 11, 12, 13, 14, 15, 16] rfl (by decide +kernel) rfl rfl rfl rfl (Nat.le_of_ble_eq_true rfl) (Nat.le_of_ble_eq_true rfl) (Nat.le_of_ble_eq_true rfl) (Nat.le_of_ble_eq_true rfl) (Nat.le_of_ble_eq_true rfl) dX9_meshTold_123 rfl (fun _ _ hp => hp.2) (fun v_12 hp_14 => ?_)
    obtain ⟨rfl, -⟩ := hp_14
    refine xr_st (st' := [.int x_11]) rfl ?_
    obtain rfl := Option.some.inj hR
    exact ret x_11 ⟨rfl, rfl⟩ (Nat.le_of_ble_eq_true rfl) (Nat.le_of_ble_eq_true rfl) dX9_meshTold_126
  replace hR := yf_f c_10 hR
  by_cases c_15 : i1 = 6
  · replace hR := yf_t c_15 hR
    refine xr_tableIn (off := 126) (tgt := 127) C dX9_meshTold_1 (by rw [c_15]; decide) (by rw [c_15]; decide) (by rw [c_15]; decide) rfl ?_
    refine xr_aload_n (n := 128) (j := 0) C dX9_meshTold_127 rfl rfl ?_
    refine xr_get (n := 131) C 0 rfl rfl 1 (by decide) in_X9 u_1238 rfl (v := .ref gw) rfl dX9_meshTold_128 rfl ?_
    obtain ⟨x_16, hx_16, hR⟩ := yf_b hR
    refine xr_callVp (n := 134) (As := []) (rest := []) C (kX8_skipped l D cy (w := gw) (wr := gwr) (wk := gwk) (wc := gwc) (wg := gwg) (ws := gws) (wa := gwa) (wb := gwb) (wad := gwad) (wan := gwan) (wak := gwak) (waG := gwaG) (wbd := gwbd) (wbn := gwbn) (wbk := gwbk) (wbG := gwbG) hx_16) mX8_skipped u_1442 u_1364 u_1365 1 rfl rfl 17 [1, 2, 3, 4, 5] [0, 6, 7, 8, 9, 10, 11, 12, 13, 14, 15, 16] rfl (by decide +kernel) rfl rfl rfl rfl (Nat.le_of_ble_eq_true rfl) (Nat.le_of_ble_eq_true rfl) (Nat.le_of_ble_eq_true rfl) (Nat.le_of_ble_eq_true rfl) (Nat.le_of_ble_eq_true rfl) dX9_meshTold_131 rfl (fun _ _ hp => hp.2) (fun v_17 hp_19 => ?_)
    obtain ⟨rfl, -⟩ := hp_19
    refine xr_st (st' := [.int x_16]) rfl ?_
    obtain rfl := Option.some.inj hR
    exact ret x_16 ⟨rfl, rfl⟩ (Nat.le_of_ble_eq_true rfl) (Nat.le_of_ble_eq_true rfl) dX9_meshTold_134
  replace hR := yf_f c_15 hR
  by_cases c_20 : i1 = 7
  · replace hR := yf_t c_20 hR
    refine xr_tableIn (off := 134) (tgt := 135) C dX9_meshTold_1 (by rw [c_20]; decide) (by rw [c_20]; decide) (by rw [c_20]; decide) rfl ?_
    refine xr_aload_n (n := 136) (j := 0) C dX9_meshTold_135 rfl rfl ?_
    refine xr_aload_n (n := 137) (j := 0) C dX9_meshTold_136 rfl rfl ?_
    refine xr_get (n := 140) C 0 rfl rfl 2 (by decide) in_X9 u_1239 rfl (v := .ref gB) rfl dX9_meshTold_137 rfl ?_
    obtain ⟨x_21, hx_21, hR⟩ := yf_b hR
    refine xr_callVp (n := 143) (As := [.ref gB]) (rest := []) C (kX9_count_r l D cy (g := g) (gth := gth) (gw := gw) (gB := gB) (gK := gK) (gU := gU) (gS := gS) (gbe := gbe) (gwo := gwo) (gta := gta) (gn := gn) (glr := glr) (glc := glc) (gti := gti) (ggo := ggo) (gR := gR) (gch := gch) (gD := gD) (h := gB) (hd := gBd) (hn := 5) (hk := 5) (hG := gBG) hx_21) mX9_count u_1338 u_1340 u_31 0 rfl rfl 17 [0, 6, 7] [1, 2, 3, 4, 5, 8, 9, 10, 11, 12, 13, 14, 15, 16] rfl (by decide +kernel) rfl rfl rfl rfl (Nat.le_of_ble_eq_true rfl) (Nat.le_of_ble_eq_true rfl) (Nat.le_of_ble_eq_true rfl) (Nat.le_of_ble_eq_true rfl) (Nat.le_of_ble_eq_true rfl) dX9_meshTold_140 rfl (fun _ _ hp => hp.2) (fun v_22 hp_24 => ?_)
    obtain ⟨rfl, -⟩ := hp_24
    refine xr_st (st' := [.int x_21]) rfl ?_
    obtain rfl := Option.some.inj hR
    exact ret x_21 ⟨rfl, rfl⟩ (Nat.le_of_ble_eq_true rfl) (Nat.le_of_ble_eq_true rfl) dX9_meshTold_143
  replace hR := yf_f c_20 hR
  by_cases c_25 : i1 = 8
  · replace hR := yf_t c_25 hR
    refine xr_tableIn (off := 143) (tgt := 144) C dX9_meshTold_1 (by rw [c_25]; decide) (by rw [c_25]; decide) (by rw [c_25]; decide) rfl ?_
    refine xr_aload_n (n := 145) (j := 0) C dX9_meshTold_144 rfl rfl ?_
    refine xr_aload_n (n := 146) (j := 0) C dX9_meshTold_145 rfl rfl ?_
    refine xr_get (n := 149) C 0 rfl rfl 3 (by decide) in_X9 u_1240 rfl (v := .ref gK) rfl dX9_meshTold_146 rfl ?_
    obtain ⟨x_26, hx_26, hR⟩ := yf_b hR
    refine xr_callVp (n := 152) (As := [.ref gK]) (rest := []) C (kX9_count_r l D cy (g := g) (gth := gth) (gw := gw) (gB := gB) (gK := gK) (gU := gU) (gS := gS) (gbe := gbe) (gwo := gwo) (gta := gta) (gn := gn) (glr := glr) (glc := glc) (gti := gti) (ggo := ggo) (gR := gR) (gch := gch) (gD := gD) (h := gK) (hd := gKd) (hn := 5) (hk := 5) (hG := gKG) hx_26) mX9_count u_1338 u_1340 u_31 0 rfl rfl 17 [0, 8, 9] [1, 2, 3, 4, 5, 6, 7, 10, 11, 12, 13, 14, 15, 16] rfl (by decide +kernel) rfl rfl rfl rfl (Nat.le_of_ble_eq_true rfl) (Nat.le_of_ble_eq_true rfl) (Nat.le_of_ble_eq_true rfl) (Nat.le_of_ble_eq_true rfl) (Nat.le_of_ble_eq_true rfl) dX9_meshTold_149 rfl (fun _ _ hp => hp.2) (fun v_27 hp_29 => ?_)
    obtain ⟨rfl, -⟩ := hp_29
    refine xr_st (st' := [.int x_26]) rfl ?_
    obtain rfl := Option.some.inj hR
    exact ret x_26 ⟨rfl, rfl⟩ (Nat.le_of_ble_eq_true rfl) (Nat.le_of_ble_eq_true rfl) dX9_meshTold_152
  replace hR := yf_f c_25 hR
  by_cases c_30 : i1 = 9
  · replace hR := yf_t c_30 hR
    refine xr_tableIn (off := 152) (tgt := 153) C dX9_meshTold_1 (by rw [c_30]; decide) (by rw [c_30]; decide) (by rw [c_30]; decide) rfl ?_
    refine xr_aload_n (n := 154) (j := 0) C dX9_meshTold_153 rfl rfl ?_
    refine xr_get (n := 157) C 0 rfl rfl 6 (by decide) in_X9 u_1243 rfl (v := .int gbe) rfl dX9_meshTold_154 rfl ?_
    obtain rfl := Option.some.inj hR
    exact ret gbe ⟨rfl, rfl⟩ (Nat.le_of_ble_eq_true rfl) (Nat.le_of_ble_eq_true rfl) dX9_meshTold_157
  replace hR := yf_f c_30 hR
  by_cases c_31 : i1 = 10
  · replace hR := yf_t c_31 hR
    refine xr_tableIn (off := 157) (tgt := 158) C dX9_meshTold_1 (by rw [c_31]; decide) (by rw [c_31]; decide) (by rw [c_31]; decide) rfl ?_
    refine xr_aload_n (n := 159) (j := 0) C dX9_meshTold_158 rfl rfl ?_
    refine xr_get (n := 162) C 0 rfl rfl 7 (by decide) in_X9 u_1244 rfl (v := .int gwo) rfl dX9_meshTold_159 rfl ?_
    obtain rfl := Option.some.inj hR
    exact ret gwo ⟨rfl, rfl⟩ (Nat.le_of_ble_eq_true rfl) (Nat.le_of_ble_eq_true rfl) dX9_meshTold_162
  replace hR := yf_f c_31 hR
  by_cases c_32 : i1 = 11
  · replace hR := yf_t c_32 hR
    refine xr_tableIn (off := 162) (tgt := 163) C dX9_meshTold_1 (by rw [c_32]; decide) (by rw [c_32]; decide) (by rw [c_32]; decide) rfl ?_
    refine xr_aload_n (n := 164) (j := 0) C dX9_meshTold_163 rfl rfl ?_
    refine xr_get (n := 167) C 0 rfl rfl 9 (by decide) in_X9 u_1246 rfl (v := .ref gn) rfl dX9_meshTold_164 rfl ?_
    refine xr_ifnull (n := 170) C dX9_meshTold_167 rfl ?_
    refine xr_iconst (n := 171) (v := 1) C dX9_meshTold_170 rfl rfl ?_
    refine xr_goto (tgt := 175) C dX9_meshTold_171 rfl ?_
    obtain ⟨x_33, hx_33, hR⟩ := yf_b hR
    refine xr_callSp (n := 178) (As := [.int 1]) (rest := []) C (kX9_one l D cy (i1 := 1) hx_33) mX9_one u_1312 u_1313 17 [] [0, 1, 2, 3, 4, 5, 6, 7, 8, 9, 10, 11, 12, 13, 14, 15, 16] rfl (by decide +kernel) rfl rfl rfl rfl (Nat.le_of_ble_eq_true rfl) (Nat.le_of_ble_eq_true rfl) (Nat.le_of_ble_eq_true rfl) (Nat.le_of_ble_eq_true rfl) (Nat.le_of_ble_eq_true rfl) dX9_meshTold_175 rfl (fun _ _ hp => hp.2) (fun v_34 hp_36 => ?_)
    obtain ⟨rfl, -⟩ := hp_36
    refine xr_st (st' := [.int x_33]) rfl ?_
    obtain rfl := Option.some.inj hR
    exact ret x_33 ⟨rfl, rfl⟩ (Nat.le_of_ble_eq_true rfl) (Nat.le_of_ble_eq_true rfl) dX9_meshTold_178
  replace hR := yf_f c_32 hR
  by_cases c_37 : i1 = 12
  · replace hR := yf_t c_37 hR
    refine xr_tableIn (off := 178) (tgt := 179) C dX9_meshTold_1 (by rw [c_37]; decide) (by rw [c_37]; decide) (by rw [c_37]; decide) rfl ?_
    refine xr_aload_n (n := 180) (j := 0) C dX9_meshTold_179 rfl rfl ?_
    obtain ⟨x_38, hx_38, hR⟩ := yf_b hR
    refine xr_callVp (n := 183) (As := []) (rest := []) C (kX9_rest_r l D cy (g := g) (gth := gth) (gw := gw) (gB := gB) (gK := gK) (gU := gU) (gS := gS) (gbe := gbe) (gwo := gwo) (gta := gta) (gn := gn) (glr := glr) (glc := glc) (gti := gti) (ggo := ggo) (gR := gR) (gch := gch) (gD := gD) (gnr := gnr) (gnk := gnk) (gnc := gnc) (gng := gng) (gns := gns) (gna := gna) (gnb := gnb) (gnad := gnad) (gnan := gnan) (gnak := gnak) (gnaG := gnaG) (gnbd := gnbd) (gnbn := gnbn) (gnbk := gnbk) (gnbG := gnbG) hx_38) mX9_left_ u_1418 u_1420 u_35 0 rfl rfl 17 [0, 12, 13, 14, 15, 16] [1, 2, 3, 4, 5, 6, 7, 8, 9, 10, 11] rfl (by decide +kernel) rfl rfl rfl rfl (Nat.le_of_ble_eq_true rfl) (Nat.le_of_ble_eq_true rfl) (Nat.le_of_ble_eq_true rfl) (Nat.le_of_ble_eq_true rfl) (Nat.le_of_ble_eq_true rfl) dX9_meshTold_180 rfl (fun _ _ hp => hp.2) (fun v_39 hp_41 => ?_)
    obtain ⟨rfl, -⟩ := hp_41
    refine xr_st (st' := [.int x_38]) rfl ?_
    obtain rfl := Option.some.inj hR
    exact ret x_38 ⟨rfl, rfl⟩ (Nat.le_of_ble_eq_true rfl) (Nat.le_of_ble_eq_true rfl) dX9_meshTold_183
  replace hR := yf_f c_37 hR
  by_cases c_42 : i1 = 13
  · replace hR := yf_t c_42 hR
    refine xr_tableIn (off := 183) (tgt := 184) C dX9_meshTold_1 (by rw [c_42]; decide) (by rw [c_42]; decide) (by rw [c_42]; decide) rfl ?_
    refine xr_aload_n (n := 185) (j := 0) C dX9_meshTold_184 rfl rfl ?_
    refine xr_get (n := 188) C 0 rfl rfl 9 (by decide) in_X9 u_1246 rfl (v := .ref gn) rfl dX9_meshTold_185 rfl ?_
    refine xr_ifnonnull (tgt := 195) C dX9_meshTold_188 rfl ?_
    refine xr_aload_n (n := 196) (j := 0) C dX9_meshTold_195 rfl rfl ?_
    refine xr_get (n := 199) C 0 rfl rfl 12 (by decide) in_X9 u_1249 rfl (v := .int gti) rfl dX9_meshTold_196 rfl ?_
    obtain rfl := Option.some.inj hR
    exact ret gti ⟨rfl, rfl⟩ (Nat.le_of_ble_eq_true rfl) (Nat.le_of_ble_eq_true rfl) dX9_meshTold_199
  replace hR := yf_f c_42 hR
  by_cases c_43 : i1 = 14
  · replace hR := yf_t c_43 hR
    refine xr_tableIn (off := 199) (tgt := 200) C dX9_meshTold_1 (by rw [c_43]; decide) (by rw [c_43]; decide) (by rw [c_43]; decide) rfl ?_
    refine xr_aload_n (n := 201) (j := 0) C dX9_meshTold_200 rfl rfl ?_
    refine xr_get (n := 204) C 0 rfl rfl 14 (by decide) in_X9 u_1251 rfl (v := .ref gR) rfl dX9_meshTold_201 rfl ?_
    refine xr_alen (n := 205) C 10 0 rfl 3 rfl rfl dX9_meshTold_204 rfl ?_
    obtain rfl := Option.some.inj hR
    exact ret (nI gRn) ⟨rfl, rfl⟩ (Nat.le_of_ble_eq_true rfl) (Nat.le_of_ble_eq_true rfl) dX9_meshTold_205
  replace hR := yf_f c_43 hR
  refine xr_tableOut (tgt := 206) C dX9_meshTold_1 (ytab_out (fun k h1 h2 => by
    rcases (show k = 0 ∨ k = 1 ∨ k = 2 ∨ k = 3 ∨ k = 4 ∨ k = 5 ∨ k = 6 ∨ k = 7 ∨ k = 8 ∨ k = 9 ∨ k = 10 ∨ k = 11 ∨ k = 12 ∨ k = 13 ∨ k = 14 by omega) with rfl | rfl | rfl | rfl | rfl | rfl | rfl | rfl | rfl | rfl | rfl | rfl | rfl | rfl | rfl
    · exact c_1
    · exact c_2
    · exact c_3
    · exact c_4
    · exact c_5
    · exact c_10
    · exact c_15
    · exact c_20
    · exact c_25
    · exact c_30
    · exact c_31
    · exact c_32
    · exact c_37
    · exact c_42
    · exact c_43)) rfl ?_
  refine xr_aload_n (n := 207) (j := 0) C dX9_meshTold_206 rfl rfl ?_
  refine xr_get (n := 210) C 0 rfl rfl 14 (by decide) in_X9 u_1251 rfl (v := .ref gR) rfl dX9_meshTold_207 rfl ?_
  refine xr_alen (n := 211) C 10 0 rfl 3 rfl rfl dX9_meshTold_210 rfl ?_
  refine xr_if_ne (tgt := 218) (n := 214) C dX9_meshTold_211 rfl rfl (fun c_44 => ?_) (fun c_44 => ?_)
  · replace hR := yf_f c_44 hR
    refine xr_aload_n (n := 219) (j := 0) C dX9_meshTold_218 rfl rfl ?_
    refine xr_get (n := 222) C 0 rfl rfl 14 (by decide) in_X9 u_1251 rfl (v := .ref gR) rfl dX9_meshTold_219 rfl ?_
    refine xr_iconst (n := 223) (v := 0) C dX9_meshTold_222 rfl rfl ?_
    obtain ⟨g_45, hR⟩ := yf_g hR
    refine xr_aald (n := 224) C 10 0 rfl 3 rfl rfl g_45 rfl dX9_meshTold_223 rfl ?_
    refine xr_aleng (n := 225) C 11 1 rfl ((0 : Int32).toNatClampNeg) (ylt g_45) rfl dX9_meshTold_224 rfl ?_
    obtain rfl := Option.some.inj hR
    exact ret (nI gRk) ⟨rfl, rfl⟩ (Nat.le_of_ble_eq_true rfl) (Nat.le_of_ble_eq_true rfl) dX9_meshTold_225
  · replace hR := yf_t c_44 hR
    refine xr_iconst (n := 215) (v := 0) C dX9_meshTold_214 rfl rfl ?_
    refine xr_goto (tgt := 225) C dX9_meshTold_215 rfl ?_
    obtain rfl := Option.some.inj hR
    exact ret 0 ⟨rfl, rfl⟩ (Nat.le_of_ble_eq_true rfl) (Nat.le_of_ble_eq_true rfl) dX9_meshTold_225
theorem dX9_mesh_0 : decode cX9_mesh 0 = .ok (.aload_n 0, 1) := by decide +kernel
theorem dX9_mesh_1 : decode cX9_mesh 1 = .ok (.iload_n 1, 1) := by decide +kernel
theorem dX9_mesh_2 : decode cX9_mesh 2 = .ok (.iconst 0, 1) := by decide +kernel
theorem dX9_mesh_3 : decode cX9_mesh 3 = .ok (.bipush 15, 2) := by decide +kernel
theorem dX9_mesh_5 : decode cX9_mesh 5 = .ok (.invokestatic 75, 3) := by decide +kernel
theorem dX9_mesh_8 : decode cX9_mesh 8 = .ok (.ifCond .ne 7, 3) := by decide +kernel
theorem dX9_mesh_11 : decode cX9_mesh 11 = .ok (.iconst 1, 1) := by decide +kernel
theorem dX9_mesh_12 : decode cX9_mesh 12 = .ok (.goto 4, 3) := by decide +kernel
theorem dX9_mesh_15 : decode cX9_mesh 15 = .ok (.iconst 0, 1) := by decide +kernel
theorem dX9_mesh_16 : decode cX9_mesh 16 = .ok (.iconst 1, 1) := by decide +kernel
theorem dX9_mesh_17 : decode cX9_mesh 17 = .ok (.invokevirtual 79, 3) := by decide +kernel
theorem dX9_mesh_20 : decode cX9_mesh 20 = .ok (.ifCond .eq 7, 3) := by decide +kernel
theorem dX9_mesh_23 : decode cX9_mesh 23 = .ok (.iconst 0, 1) := by decide +kernel
theorem dX9_mesh_24 : decode cX9_mesh 24 = .ok (.goto 8, 3) := by decide +kernel
theorem dX9_mesh_27 : decode cX9_mesh 27 = .ok (.aload_n 0, 1) := by decide +kernel
theorem dX9_mesh_28 : decode cX9_mesh 28 = .ok (.iload_n 1, 1) := by decide +kernel
theorem dX9_mesh_29 : decode cX9_mesh 29 = .ok (.invokevirtual 241, 3) := by decide +kernel
theorem dX9_mesh_32 : decode cX9_mesh 32 = .ok (.ireturn, 1) := by decide +kernel
def fX9_mesh_i (gbe : Int32) (gwo : Int32) (gwr : Int32) (gwk : Int32) (gwc : Int32) (gwg : Int32) (gws : Int32) (gwan : Nat) (gwak : Nat) (gwaG : Nat → Nat → Int32) (gwbn : Nat) (gwbk : Nat) (gwbG : Nat → Nat → Int32) (gBG : Nat → Nat → Int32) (gKG : Nat → Nat → Int32) (gRn : Nat) (gRk : Nat) (i1 : Int32) : Option (Int32 × Int32) := ((fX9_isIn i1 0 15).bind fun x_1 => ((((if x_1 = 0 then some 1 else some 0) : Option (Int32))).bind fun r_6 => ((fX9_start_i r_6 1).bind fun x_7 => (if x_7.1 = 0 then ((fX9_meshTold_i gbe gwo gwr gwk gwc gwg gws gwan gwak gwaG gwbn gwbk gwbG gBG gKG gRn gRk i1).bind fun x_12 => some (x_12, x_7.2)) else some (0, x_7.2)))))
abbrev hX9_mesh : Cond := .code yX9_mesh cX9_mesh 2 (some .int)
theorem mX9_mesh : yM yX9_mesh hX9_mesh 1 := ⟨u_1511, u_64, by decide +kernel, by decide +kernel, by decide +kernel⟩
set_option maxHeartbeats 4000000 in
set_option maxRecDepth 100000 in
theorem kX9_mesh_i (l : Launch) (D : va_G) (cy : Nat → ClassId) (g : Nat) (gth : Int32) (gw : Nat) (gB : Nat) (gK : Nat) (gU : Nat) (gS : Nat) (gbe : Int32) (gwo : Int32) (gta : Int64) (glr : Int32) (glc : Int32) (gti : Int32) (ggo : Int32) (gR : Nat) (gch : Int32) (gD : Nat) (gwr : Int32) (gwk : Int32) (gwc : Int32) (gwg : Int32) (gws : Int32) (gwa : Nat) (gwb : Nat) (gwad : Nat → Nat) (gwan : Nat) (gwak : Nat) (gwaG : Nat → Nat → Int32) (gwbd : Nat → Nat) (gwbn : Nat) (gwbk : Nat) (gwbG : Nat → Nat → Int32) (gBd : Nat → Nat) (gBG : Nat → Nat → Int32) (gKd : Nat → Nat) (gKG : Nat → Nat → Int32) (gRd : Nat → Nat) (gRn : Nat) (gRk : Nat) (gRG : Nat → Nat → Int32) (i1 : Int32) {res : Int32 × Int32} (hR : fX9_mesh_i gbe gwo gwr gwk gwc gwg gws gwan gwak gwaG gwbn gwbk gwbG gBG gKG gRn gRk i1 = some res) : YM l D cy yX9_mesh hX9_mesh 5 0 0 [.ref g, .int i1] [[(g, .inr (11, [.int gth, .ref gw, .ref gB, .ref gK, .ref gU, .ref gS, .int gbe, .int gwo, .long gta, .null, .int glr, .int glc, .int gti, .int ggo, .ref gR, .int gch, .ref gD]))], [(gw, .inr (10, [.int gwr, .int gwk, .int gwc, .int gwg, .int gws, .ref gwa, .ref gwb]))], [(gwa, .inl (cy 3, gwan, .inr (.inr (.inr (.inr (yad gwad))))))], xg_rows gwad gwan (cy 1) gwak gwaG, [(gwb, .inl (cy 3, gwbn, .inr (.inr (.inr (.inr (yad gwbd))))))], xg_rows gwbd gwbn (cy 1) gwbk gwbG, [(gB, .inl (cy 4, 5, .inr (.inr (.inr (.inr (yad gBd))))))], xg_rows gBd 5 (cy 2) 5 gBG, [(gK, .inl (cy 4, 5, .inr (.inr (.inr (.inr (yad gKd))))))], xg_rows gKd 5 (cy 2) 5 gKG, [(gR, .inl (cy 3, gRn, .inr (.inr (.inr (.inr (yad gRd))))))], xg_rows gRd gRn (cy 1) gRk gRG] (fun v u => v = some (.int res.1) ∧ u = [[(g, .inr (11, [.int res.2, .ref gw, .ref gB, .ref gK, .ref gU, .ref gS, .int gbe, .int gwo, .long gta, .null, .int glr, .int glc, .int gti, .int ggo, .ref gR, .int gch, .ref gD]))], [(gw, .inr (10, [.int gwr, .int gwk, .int gwc, .int gwg, .int gws, .ref gwa, .ref gwb]))], [(gwa, .inl (cy 3, gwan, .inr (.inr (.inr (.inr (yad gwad))))))], xg_rows gwad gwan (cy 1) gwak gwaG, [(gwb, .inl (cy 3, gwbn, .inr (.inr (.inr (.inr (yad gwbd))))))], xg_rows gwbd gwbn (cy 1) gwbk gwbG, [(gB, .inl (cy 4, 5, .inr (.inr (.inr (.inr (yad gBd))))))], xg_rows gBd 5 (cy 2) 5 gBG, [(gK, .inl (cy 4, 5, .inr (.inr (.inr (.inr (yad gKd))))))], xg_rows gKd 5 (cy 2) 5 gKG, [(gR, .inl (cy 3, gRn, .inr (.inr (.inr (.inr (yad gRd))))))], xg_rows gRd gRn (cy 1) gRk gRG]) := by
  unfold fX9_mesh_i at hR
  refine YM.ofI (cc := cX9_mesh) (maxL := 2) (ret := (some .int)) (by decide +kernel) rfl (Nat.le_of_ble_eq_true rfl) [(0, .ref g), (1, .int i1)] rfl rfl (fun p e s m args below meth c A H0 Q C hnm ret => ?_)
  refine xr_aload_n (n := 1) (j := 0) C dX9_mesh_0 rfl rfl ?_
  refine xr_iload_n (n := 2) (j := 1) C dX9_mesh_1 rfl rfl ?_
  refine xr_iconst (n := 3) (v := 0) C dX9_mesh_2 rfl rfl ?_
  refine xr_bipush (n := 5) (v := 15) C dX9_mesh_3 rfl rfl ?_
  obtain ⟨x_1, hx_1, hR⟩ := yf_b hR
  refine xr_callSp (n := 8) (As := [.int i1, .int 0, .int 15]) (rest := [.ref g]) C (kX9_isIn l D cy (i1 := i1) (i2 := 0) (i3 := 15) hx_1) mX9_isIn u_1298 u_1299 12 [] [0, 1, 2, 3, 4, 5, 6, 7, 8, 9, 10, 11] rfl (by decide +kernel) rfl rfl rfl rfl (Nat.le_of_ble_eq_true rfl) (Nat.le_of_ble_eq_true rfl) (Nat.le_of_ble_eq_true rfl) (Nat.le_of_ble_eq_true rfl) (Nat.le_of_ble_eq_true rfl) dX9_mesh_5 rfl (fun _ _ hp => hp.2) (fun v_2 hp_4 => ?_)
  obtain ⟨rfl, -⟩ := hp_4
  refine xr_st (st' := [.int x_1, .ref g]) rfl ?_
  obtain ⟨r_6, hE_6, hR⟩ := yf_b hR
  have J_6 : X p l e (yR 5 0 0) s m args below meth c D A H0 2 Q [[(g, .inr (11, [.int gth, .ref gw, .ref gB, .ref gK, .ref gU, .ref gS, .int gbe, .int gwo, .long gta, .null, .int glr, .int glc, .int gti, .int ggo, .ref gR, .int gch, .ref gD]))], [(gw, .inr (10, [.int gwr, .int gwk, .int gwc, .int gwg, .int gws, .ref gwa, .ref gwb]))], [(gwa, .inl (cy 3, gwan, .inr (.inr (.inr (.inr (yad gwad))))))], xg_rows gwad gwan (cy 1) gwak gwaG, [(gwb, .inl (cy 3, gwbn, .inr (.inr (.inr (.inr (yad gwbd))))))], xg_rows gwbd gwbn (cy 1) gwbk gwbG, [(gB, .inl (cy 4, 5, .inr (.inr (.inr (.inr (yad gBd))))))], xg_rows gBd 5 (cy 2) 5 gBG, [(gK, .inl (cy 4, 5, .inr (.inr (.inr (.inr (yad gKd))))))], xg_rows gKd 5 (cy 2) 5 gKG, [(gR, .inl (cy 3, gRn, .inr (.inr (.inr (.inr (yad gRd))))))], xg_rows gRd gRn (cy 1) gRk gRG] 0 0 [(0, .ref g), (1, .int i1)] 16 [.int r_6, .ref g] := by
    refine xr_iconst (n := 17) (v := 1) C dX9_mesh_16 rfl rfl ?_
    obtain ⟨x_7, hx_7, hR⟩ := yf_b hR
    refine xr_callV (n := 20) (As := [.int r_6, .int 1]) (rest := []) C (kX9_start_i l D cy (g := g) (gth := gth) (gw := gw) (gB := gB) (gK := gK) (gU := gU) (gS := gS) (gbe := gbe) (gwo := gwo) (gta := gta) (glr := glr) (glc := glc) (gti := gti) (ggo := ggo) (gR := gR) (gch := gch) (gD := gD) (i1 := r_6) (i2 := 1) hx_7) mX9_start u_1301 u_1303 u_29 0 rfl rfl 12 [0] [1, 2, 3, 4, 5, 6, 7, 8, 9, 10, 11] rfl (by decide +kernel) rfl rfl rfl rfl (Nat.le_of_ble_eq_true rfl) (Nat.le_of_ble_eq_true rfl) (Nat.le_of_ble_eq_true rfl) (Nat.le_of_ble_eq_true rfl) (Nat.le_of_ble_eq_true rfl) dX9_mesh_17 rfl (fun v_8 u_9 hp_10 => ?_)
    obtain ⟨rfl, rfl⟩ := hp_10
    refine xr_perm C 12 [0, 1, 2, 3, 4, 5, 6, 7, 8, 9, 10, 11] [] [[(g, .inr (11, [.int x_7.2, .ref gw, .ref gB, .ref gK, .ref gU, .ref gS, .int gbe, .int gwo, .long gta, .null, .int glr, .int glc, .int gti, .int ggo, .ref gR, .int gch, .ref gD]))], [(gw, .inr (10, [.int gwr, .int gwk, .int gwc, .int gwg, .int gws, .ref gwa, .ref gwb]))], [(gwa, .inl (cy 3, gwan, .inr (.inr (.inr (.inr (yad gwad))))))], xg_rows gwad gwan (cy 1) gwak gwaG, [(gwb, .inl (cy 3, gwbn, .inr (.inr (.inr (.inr (yad gwbd))))))], xg_rows gwbd gwbn (cy 1) gwbk gwbG, [(gB, .inl (cy 4, 5, .inr (.inr (.inr (.inr (yad gBd))))))], xg_rows gBd 5 (cy 2) 5 gBG, [(gK, .inl (cy 4, 5, .inr (.inr (.inr (.inr (yad gKd))))))], xg_rows gKd 5 (cy 2) 5 gKG, [(gR, .inl (cy 3, gRn, .inr (.inr (.inr (.inr (yad gRd))))))], xg_rows gRd gRn (cy 1) gRk gRG] rfl (by decide +kernel) rfl ?_
    refine xr_st (st' := [.int x_7.1]) rfl ?_
    refine xr_if_eq (tgt := 27) (n := 23) C dX9_mesh_20 rfl rfl (fun c_11 => ?_) (fun c_11 => ?_)
    · replace hR := yf_t c_11 hR
      refine xr_aload_n (n := 28) (j := 0) C dX9_mesh_27 rfl rfl ?_
      refine xr_iload_n (n := 29) (j := 1) C dX9_mesh_28 rfl rfl ?_
      obtain ⟨x_12, hx_12, hR⟩ := yf_b hR
      refine xr_callVp (n := 32) (As := [.int i1]) (rest := []) C (kX9_meshTold_i l D cy (g := g) (gth := x_7.2) (gw := gw) (gB := gB) (gK := gK) (gU := gU) (gS := gS) (gbe := gbe) (gwo := gwo) (gta := gta) (glr := glr) (glc := glc) (gti := gti) (ggo := ggo) (gR := gR) (gch := gch) (gD := gD) (gwr := gwr) (gwk := gwk) (gwc := gwc) (gwg := gwg) (gws := gws) (gwa := gwa) (gwb := gwb) (gwad := gwad) (gwan := gwan) (gwak := gwak) (gwaG := gwaG) (gwbd := gwbd) (gwbn := gwbn) (gwbk := gwbk) (gwbG := gwbG) (gBd := gBd) (gBG := gBG) (gKd := gKd) (gKG := gKG) (gRd := gRd) (gRn := gRn) (gRk := gRk) (gRG := gRG) (i1 := i1) hx_12) mX9_meshTold u_1512 u_1514 u_49 0 rfl rfl 12 [0, 1, 2, 3, 4, 5, 6, 7, 8, 9, 10, 11] [] rfl (by decide +kernel) rfl rfl rfl rfl (Nat.le_of_ble_eq_true rfl) (Nat.le_of_ble_eq_true rfl) (Nat.le_of_ble_eq_true rfl) (Nat.le_of_ble_eq_true rfl) (Nat.le_of_ble_eq_true rfl) dX9_mesh_29 rfl (fun _ _ hp => hp.2) (fun v_13 hp_15 => ?_)
      obtain ⟨rfl, -⟩ := hp_15
      refine xr_st (st' := [.int x_12]) rfl ?_
      obtain rfl := Option.some.inj hR
      exact ret x_12 ⟨rfl, rfl⟩ (Nat.le_of_ble_eq_true rfl) (Nat.le_of_ble_eq_true rfl) dX9_mesh_32
    · replace hR := yf_f c_11 hR
      refine xr_iconst (n := 24) (v := 0) C dX9_mesh_23 rfl rfl ?_
      refine xr_goto (tgt := 32) C dX9_mesh_24 rfl ?_
      obtain rfl := Option.some.inj hR
      exact ret 0 ⟨rfl, rfl⟩ (Nat.le_of_ble_eq_true rfl) (Nat.le_of_ble_eq_true rfl) dX9_mesh_32
  refine xr_if_ne (tgt := 15) (n := 11) C dX9_mesh_8 rfl rfl (fun c_16 => ?_) (fun c_16 => ?_)
  · replace hE_6 := yf_f c_16 hE_6
    refine xr_iconst (n := 16) (v := 0) C dX9_mesh_15 rfl rfl ?_
    have e_17 := Option.some.inj hE_6
    subst e_17
    exact J_6
  · replace hE_6 := yf_t c_16 hE_6
    refine xr_iconst (n := 12) (v := 1) C dX9_mesh_11 rfl rfl ?_
    refine xr_goto (tgt := 16) C dX9_mesh_12 rfl ?_
    have e_18 := Option.some.inj hE_6
    subst e_18
    exact J_6
def fX9_mesh_r (gbe : Int32) (gwo : Int32) (glr : Int32) (glc : Int32) (gti : Int32) (ggo : Int32) (gwr : Int32) (gwk : Int32) (gwc : Int32) (gwg : Int32) (gws : Int32) (gwan : Nat) (gwak : Nat) (gwaG : Nat → Nat → Int32) (gwbn : Nat) (gwbk : Nat) (gwbG : Nat → Nat → Int32) (gBG : Nat → Nat → Int32) (gKG : Nat → Nat → Int32) (gRn : Nat) (gRk : Nat) (gnr : Int32) (gnk : Int32) (gnc : Int32) (gng : Int32) (gns : Int32) (gnan : Nat) (gnak : Nat) (gnaG : Nat → Nat → Int32) (gnbn : Nat) (gnbk : Nat) (gnbG : Nat → Nat → Int32) (i1 : Int32) : Option (Int32 × Int32) := ((fX9_isIn i1 0 15).bind fun x_1 => ((((if x_1 = 0 then some 1 else some 0) : Option (Int32))).bind fun r_6 => ((fX9_start_r r_6 1).bind fun x_7 => (if x_7.1 = 0 then ((fX9_meshTold_r gbe gwo glr glc gti ggo gwr gwk gwc gwg gws gwan gwak gwaG gwbn gwbk gwbG gBG gKG gRn gRk gnr gnk gnc gng gns gnan gnak gnaG gnbn gnbk gnbG i1).bind fun x_12 => some (x_12, x_7.2)) else some (0, x_7.2)))))
set_option maxHeartbeats 4000000 in
set_option maxRecDepth 100000 in
theorem kX9_mesh_r (l : Launch) (D : va_G) (cy : Nat → ClassId) (g : Nat) (gth : Int32) (gw : Nat) (gB : Nat) (gK : Nat) (gU : Nat) (gS : Nat) (gbe : Int32) (gwo : Int32) (gta : Int64) (gn : Nat) (glr : Int32) (glc : Int32) (gti : Int32) (ggo : Int32) (gR : Nat) (gch : Int32) (gD : Nat) (gwr : Int32) (gwk : Int32) (gwc : Int32) (gwg : Int32) (gws : Int32) (gwa : Nat) (gwb : Nat) (gwad : Nat → Nat) (gwan : Nat) (gwak : Nat) (gwaG : Nat → Nat → Int32) (gwbd : Nat → Nat) (gwbn : Nat) (gwbk : Nat) (gwbG : Nat → Nat → Int32) (gBd : Nat → Nat) (gBG : Nat → Nat → Int32) (gKd : Nat → Nat) (gKG : Nat → Nat → Int32) (gRd : Nat → Nat) (gRn : Nat) (gRk : Nat) (gRG : Nat → Nat → Int32) (gnr : Int32) (gnk : Int32) (gnc : Int32) (gng : Int32) (gns : Int32) (gna : Nat) (gnb : Nat) (gnad : Nat → Nat) (gnan : Nat) (gnak : Nat) (gnaG : Nat → Nat → Int32) (gnbd : Nat → Nat) (gnbn : Nat) (gnbk : Nat) (gnbG : Nat → Nat → Int32) (i1 : Int32) {res : Int32 × Int32} (hR : fX9_mesh_r gbe gwo glr glc gti ggo gwr gwk gwc gwg gws gwan gwak gwaG gwbn gwbk gwbG gBG gKG gRn gRk gnr gnk gnc gng gns gnan gnak gnaG gnbn gnbk gnbG i1 = some res) : YM l D cy yX9_mesh hX9_mesh 7 0 0 [.ref g, .int i1] [[(g, .inr (11, [.int gth, .ref gw, .ref gB, .ref gK, .ref gU, .ref gS, .int gbe, .int gwo, .long gta, .ref gn, .int glr, .int glc, .int gti, .int ggo, .ref gR, .int gch, .ref gD]))], [(gw, .inr (10, [.int gwr, .int gwk, .int gwc, .int gwg, .int gws, .ref gwa, .ref gwb]))], [(gwa, .inl (cy 3, gwan, .inr (.inr (.inr (.inr (yad gwad))))))], xg_rows gwad gwan (cy 1) gwak gwaG, [(gwb, .inl (cy 3, gwbn, .inr (.inr (.inr (.inr (yad gwbd))))))], xg_rows gwbd gwbn (cy 1) gwbk gwbG, [(gB, .inl (cy 4, 5, .inr (.inr (.inr (.inr (yad gBd))))))], xg_rows gBd 5 (cy 2) 5 gBG, [(gK, .inl (cy 4, 5, .inr (.inr (.inr (.inr (yad gKd))))))], xg_rows gKd 5 (cy 2) 5 gKG, [(gR, .inl (cy 3, gRn, .inr (.inr (.inr (.inr (yad gRd))))))], xg_rows gRd gRn (cy 1) gRk gRG, [(gn, .inr (10, [.int gnr, .int gnk, .int gnc, .int gng, .int gns, .ref gna, .ref gnb]))], [(gna, .inl (cy 3, gnan, .inr (.inr (.inr (.inr (yad gnad))))))], xg_rows gnad gnan (cy 1) gnak gnaG, [(gnb, .inl (cy 3, gnbn, .inr (.inr (.inr (.inr (yad gnbd))))))], xg_rows gnbd gnbn (cy 1) gnbk gnbG] (fun v u => v = some (.int res.1) ∧ u = [[(g, .inr (11, [.int res.2, .ref gw, .ref gB, .ref gK, .ref gU, .ref gS, .int gbe, .int gwo, .long gta, .ref gn, .int glr, .int glc, .int gti, .int ggo, .ref gR, .int gch, .ref gD]))], [(gw, .inr (10, [.int gwr, .int gwk, .int gwc, .int gwg, .int gws, .ref gwa, .ref gwb]))], [(gwa, .inl (cy 3, gwan, .inr (.inr (.inr (.inr (yad gwad))))))], xg_rows gwad gwan (cy 1) gwak gwaG, [(gwb, .inl (cy 3, gwbn, .inr (.inr (.inr (.inr (yad gwbd))))))], xg_rows gwbd gwbn (cy 1) gwbk gwbG, [(gB, .inl (cy 4, 5, .inr (.inr (.inr (.inr (yad gBd))))))], xg_rows gBd 5 (cy 2) 5 gBG, [(gK, .inl (cy 4, 5, .inr (.inr (.inr (.inr (yad gKd))))))], xg_rows gKd 5 (cy 2) 5 gKG, [(gR, .inl (cy 3, gRn, .inr (.inr (.inr (.inr (yad gRd))))))], xg_rows gRd gRn (cy 1) gRk gRG, [(gn, .inr (10, [.int gnr, .int gnk, .int gnc, .int gng, .int gns, .ref gna, .ref gnb]))], [(gna, .inl (cy 3, gnan, .inr (.inr (.inr (.inr (yad gnad))))))], xg_rows gnad gnan (cy 1) gnak gnaG, [(gnb, .inl (cy 3, gnbn, .inr (.inr (.inr (.inr (yad gnbd))))))], xg_rows gnbd gnbn (cy 1) gnbk gnbG]) := by
  unfold fX9_mesh_r at hR
  refine YM.ofI (cc := cX9_mesh) (maxL := 2) (ret := (some .int)) (by decide +kernel) rfl (Nat.le_of_ble_eq_true rfl) [(0, .ref g), (1, .int i1)] rfl rfl (fun p e s m args below meth c A H0 Q C hnm ret => ?_)
  refine xr_aload_n (n := 1) (j := 0) C dX9_mesh_0 rfl rfl ?_
  refine xr_iload_n (n := 2) (j := 1) C dX9_mesh_1 rfl rfl ?_
  refine xr_iconst (n := 3) (v := 0) C dX9_mesh_2 rfl rfl ?_
  refine xr_bipush (n := 5) (v := 15) C dX9_mesh_3 rfl rfl ?_
  obtain ⟨x_1, hx_1, hR⟩ := yf_b hR
  refine xr_callSp (n := 8) (As := [.int i1, .int 0, .int 15]) (rest := [.ref g]) C (kX9_isIn l D cy (i1 := i1) (i2 := 0) (i3 := 15) hx_1) mX9_isIn u_1298 u_1299 17 [] [0, 1, 2, 3, 4, 5, 6, 7, 8, 9, 10, 11, 12, 13, 14, 15, 16] rfl (by decide +kernel) rfl rfl rfl rfl (Nat.le_of_ble_eq_true rfl) (Nat.le_of_ble_eq_true rfl) (Nat.le_of_ble_eq_true rfl) (Nat.le_of_ble_eq_true rfl) (Nat.le_of_ble_eq_true rfl) dX9_mesh_5 rfl (fun _ _ hp => hp.2) (fun v_2 hp_4 => ?_)
  obtain ⟨rfl, -⟩ := hp_4
  refine xr_st (st' := [.int x_1, .ref g]) rfl ?_
  obtain ⟨r_6, hE_6, hR⟩ := yf_b hR
  have J_6 : X p l e (yR 7 0 0) s m args below meth c D A H0 2 Q [[(g, .inr (11, [.int gth, .ref gw, .ref gB, .ref gK, .ref gU, .ref gS, .int gbe, .int gwo, .long gta, .ref gn, .int glr, .int glc, .int gti, .int ggo, .ref gR, .int gch, .ref gD]))], [(gw, .inr (10, [.int gwr, .int gwk, .int gwc, .int gwg, .int gws, .ref gwa, .ref gwb]))], [(gwa, .inl (cy 3, gwan, .inr (.inr (.inr (.inr (yad gwad))))))], xg_rows gwad gwan (cy 1) gwak gwaG, [(gwb, .inl (cy 3, gwbn, .inr (.inr (.inr (.inr (yad gwbd))))))], xg_rows gwbd gwbn (cy 1) gwbk gwbG, [(gB, .inl (cy 4, 5, .inr (.inr (.inr (.inr (yad gBd))))))], xg_rows gBd 5 (cy 2) 5 gBG, [(gK, .inl (cy 4, 5, .inr (.inr (.inr (.inr (yad gKd))))))], xg_rows gKd 5 (cy 2) 5 gKG, [(gR, .inl (cy 3, gRn, .inr (.inr (.inr (.inr (yad gRd))))))], xg_rows gRd gRn (cy 1) gRk gRG, [(gn, .inr (10, [.int gnr, .int gnk, .int gnc, .int gng, .int gns, .ref gna, .ref gnb]))], [(gna, .inl (cy 3, gnan, .inr (.inr (.inr (.inr (yad gnad))))))], xg_rows gnad gnan (cy 1) gnak gnaG, [(gnb, .inl (cy 3, gnbn, .inr (.inr (.inr (.inr (yad gnbd))))))], xg_rows gnbd gnbn (cy 1) gnbk gnbG] 0 0 [(0, .ref g), (1, .int i1)] 16 [.int r_6, .ref g] := by
    refine xr_iconst (n := 17) (v := 1) C dX9_mesh_16 rfl rfl ?_
    obtain ⟨x_7, hx_7, hR⟩ := yf_b hR
    refine xr_callV (n := 20) (As := [.int r_6, .int 1]) (rest := []) C (kX9_start_r l D cy (g := g) (gth := gth) (gw := gw) (gB := gB) (gK := gK) (gU := gU) (gS := gS) (gbe := gbe) (gwo := gwo) (gta := gta) (gn := gn) (glr := glr) (glc := glc) (gti := gti) (ggo := ggo) (gR := gR) (gch := gch) (gD := gD) (i1 := r_6) (i2 := 1) hx_7) mX9_start u_1301 u_1303 u_29 0 rfl rfl 17 [0] [1, 2, 3, 4, 5, 6, 7, 8, 9, 10, 11, 12, 13, 14, 15, 16] rfl (by decide +kernel) rfl rfl rfl rfl (Nat.le_of_ble_eq_true rfl) (Nat.le_of_ble_eq_true rfl) (Nat.le_of_ble_eq_true rfl) (Nat.le_of_ble_eq_true rfl) (Nat.le_of_ble_eq_true rfl) dX9_mesh_17 rfl (fun v_8 u_9 hp_10 => ?_)
    obtain ⟨rfl, rfl⟩ := hp_10
    refine xr_perm C 17 [0, 1, 2, 3, 4, 5, 6, 7, 8, 9, 10, 11, 12, 13, 14, 15, 16] [] [[(g, .inr (11, [.int x_7.2, .ref gw, .ref gB, .ref gK, .ref gU, .ref gS, .int gbe, .int gwo, .long gta, .ref gn, .int glr, .int glc, .int gti, .int ggo, .ref gR, .int gch, .ref gD]))], [(gw, .inr (10, [.int gwr, .int gwk, .int gwc, .int gwg, .int gws, .ref gwa, .ref gwb]))], [(gwa, .inl (cy 3, gwan, .inr (.inr (.inr (.inr (yad gwad))))))], xg_rows gwad gwan (cy 1) gwak gwaG, [(gwb, .inl (cy 3, gwbn, .inr (.inr (.inr (.inr (yad gwbd))))))], xg_rows gwbd gwbn (cy 1) gwbk gwbG, [(gB, .inl (cy 4, 5, .inr (.inr (.inr (.inr (yad gBd))))))], xg_rows gBd 5 (cy 2) 5 gBG, [(gK, .inl (cy 4, 5, .inr (.inr (.inr (.inr (yad gKd))))))], xg_rows gKd 5 (cy 2) 5 gKG, [(gR, .inl (cy 3, gRn, .inr (.inr (.inr (.inr (yad gRd))))))], xg_rows gRd gRn (cy 1) gRk gRG, [(gn, .inr (10, [.int gnr, .int gnk, .int gnc, .int gng, .int gns, .ref gna, .ref gnb]))], [(gna, .inl (cy 3, gnan, .inr (.inr (.inr (.inr (yad gnad))))))], xg_rows gnad gnan (cy 1) gnak gnaG, [(gnb, .inl (cy 3, gnbn, .inr (.inr (.inr (.inr (yad gnbd))))))], xg_rows gnbd gnbn (cy 1) gnbk gnbG] rfl (by decide +kernel) rfl ?_
    refine xr_st (st' := [.int x_7.1]) rfl ?_
    refine xr_if_eq (tgt := 27) (n := 23) C dX9_mesh_20 rfl rfl (fun c_11 => ?_) (fun c_11 => ?_)
    · replace hR := yf_t c_11 hR
      refine xr_aload_n (n := 28) (j := 0) C dX9_mesh_27 rfl rfl ?_
      refine xr_iload_n (n := 29) (j := 1) C dX9_mesh_28 rfl rfl ?_
      obtain ⟨x_12, hx_12, hR⟩ := yf_b hR
      refine xr_callVp (n := 32) (As := [.int i1]) (rest := []) C (kX9_meshTold_r l D cy (g := g) (gth := x_7.2) (gw := gw) (gB := gB) (gK := gK) (gU := gU) (gS := gS) (gbe := gbe) (gwo := gwo) (gta := gta) (gn := gn) (glr := glr) (glc := glc) (gti := gti) (ggo := ggo) (gR := gR) (gch := gch) (gD := gD) (gwr := gwr) (gwk := gwk) (gwc := gwc) (gwg := gwg) (gws := gws) (gwa := gwa) (gwb := gwb) (gwad := gwad) (gwan := gwan) (gwak := gwak) (gwaG := gwaG) (gwbd := gwbd) (gwbn := gwbn) (gwbk := gwbk) (gwbG := gwbG) (gBd := gBd) (gBG := gBG) (gKd := gKd) (gKG := gKG) (gRd := gRd) (gRn := gRn) (gRk := gRk) (gRG := gRG) (gnr := gnr) (gnk := gnk) (gnc := gnc) (gng := gng) (gns := gns) (gna := gna) (gnb := gnb) (gnad := gnad) (gnan := gnan) (gnak := gnak) (gnaG := gnaG) (gnbd := gnbd) (gnbn := gnbn) (gnbk := gnbk) (gnbG := gnbG) (i1 := i1) hx_12) mX9_meshTold u_1512 u_1514 u_49 0 rfl rfl 17 [0, 1, 2, 3, 4, 5, 6, 7, 8, 9, 10, 11, 12, 13, 14, 15, 16] [] rfl (by decide +kernel) rfl rfl rfl rfl (Nat.le_of_ble_eq_true rfl) (Nat.le_of_ble_eq_true rfl) (Nat.le_of_ble_eq_true rfl) (Nat.le_of_ble_eq_true rfl) (Nat.le_of_ble_eq_true rfl) dX9_mesh_29 rfl (fun _ _ hp => hp.2) (fun v_13 hp_15 => ?_)
      obtain ⟨rfl, -⟩ := hp_15
      refine xr_st (st' := [.int x_12]) rfl ?_
      obtain rfl := Option.some.inj hR
      exact ret x_12 ⟨rfl, rfl⟩ (Nat.le_of_ble_eq_true rfl) (Nat.le_of_ble_eq_true rfl) dX9_mesh_32
    · replace hR := yf_f c_11 hR
      refine xr_iconst (n := 24) (v := 0) C dX9_mesh_23 rfl rfl ?_
      refine xr_goto (tgt := 32) C dX9_mesh_24 rfl ?_
      obtain rfl := Option.some.inj hR
      exact ret 0 ⟨rfl, rfl⟩ (Nat.le_of_ble_eq_true rfl) (Nat.le_of_ble_eq_true rfl) dX9_mesh_32
  refine xr_if_ne (tgt := 15) (n := 11) C dX9_mesh_8 rfl rfl (fun c_16 => ?_) (fun c_16 => ?_)
  · replace hE_6 := yf_f c_16 hE_6
    refine xr_iconst (n := 16) (v := 0) C dX9_mesh_15 rfl rfl ?_
    have e_17 := Option.some.inj hE_6
    subst e_17
    exact J_6
  · replace hE_6 := yf_t c_16 hE_6
    refine xr_iconst (n := 12) (v := 1) C dX9_mesh_11 rfl rfl ?_
    refine xr_goto (tgt := 16) C dX9_mesh_12 rfl ?_
    have e_18 := Option.some.inj hE_6
    subst e_18
    exact J_6
