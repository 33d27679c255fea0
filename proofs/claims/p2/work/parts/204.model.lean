theorem u_1205 : Cond.fieldLink RX9 55 "PulsemeshModel$Work" "c" "I" ∈ yU := yu 1205 (by decide +kernel) (by decide +kernel)
theorem u_1213 : Cond.fieldLink RX9 61 "PulsemeshModel$Work" "b" "[[I" ∈ yU := yu 1213 (by decide +kernel) (by decide +kernel)
theorem u_1322 : Cond.code yX9_top cX9_top 5 (some .int) ∈ yU := yu 1322 (by decide +kernel) (by decide +kernel)
theorem u_1207 : Cond.fieldLink RX9 86 "PulsemeshModel$Work" "kind" "I" ∈ yU := yu 1207 (by decide +kernel) (by decide +kernel)
theorem u_1209 : Cond.fieldLink RX9 89 "PulsemeshModel$Work" "isChecked" "Z" ∈ yU := yu 1209 (by decide +kernel) (by decide +kernel)
theorem u_1326 : Cond.code yX9_kind cX9_kind 3 (some .int) ∈ yU := yu 1326 (by decide +kernel) (by decide +kernel)
theorem u_1330 : Cond.code yX9_checked cX9_checked 3 (some .boolean) ∈ yU := yu 1330 (by decide +kernel) (by decide +kernel)
theorem dX9_top_0 : decode cX9_top 0 = .ok (.aload_n 0, 1) := by decide +kernel
theorem dX9_top_1 : decode cX9_top 1 = .ok (.iload_n 1, 1) := by decide +kernel
theorem dX9_top_2 : decode cX9_top 2 = .ok (.iconst 0, 1) := by decide +kernel
theorem dX9_top_3 : decode cX9_top 3 = .ok (.aload_n 0, 1) := by decide +kernel
theorem dX9_top_4 : decode cX9_top 4 = .ok (.getfield 16, 3) := by decide +kernel
theorem dX9_top_7 : decode cX9_top 7 = .ok (.getfield 52, 3) := by decide +kernel
theorem dX9_top_10 : decode cX9_top 10 = .ok (.iconst 1, 1) := by decide +kernel
theorem dX9_top_11 : decode cX9_top 11 = .ok (.isub, 1) := by decide +kernel
theorem dX9_top_12 : decode cX9_top 12 = .ok (.invokestatic 75, 3) := by decide +kernel
theorem dX9_top_15 : decode cX9_top 15 = .ok (.ifCond .eq 20, 3) := by decide +kernel
theorem dX9_top_18 : decode cX9_top 18 = .ok (.iload_n 2, 1) := by decide +kernel
theorem dX9_top_19 : decode cX9_top 19 = .ok (.iconst 0, 1) := by decide +kernel
theorem dX9_top_20 : decode cX9_top 20 = .ok (.aload_n 0, 1) := by decide +kernel
theorem dX9_top_21 : decode cX9_top 21 = .ok (.getfield 16, 3) := by decide +kernel
theorem dX9_top_24 : decode cX9_top 24 = .ok (.getfield 55, 3) := by decide +kernel
theorem dX9_top_27 : decode cX9_top 27 = .ok (.iconst 1, 1) := by decide +kernel
theorem dX9_top_28 : decode cX9_top 28 = .ok (.isub, 1) := by decide +kernel
theorem dX9_top_29 : decode cX9_top 29 = .ok (.invokestatic 75, 3) := by decide +kernel
theorem dX9_top_32 : decode cX9_top 32 = .ok (.ifCond .ne 7, 3) := by decide +kernel
theorem dX9_top_35 : decode cX9_top 35 = .ok (.iconst 1, 1) := by decide +kernel
theorem dX9_top_36 : decode cX9_top 36 = .ok (.goto 4, 3) := by decide +kernel
theorem dX9_top_39 : decode cX9_top 39 = .ok (.iconst 0, 1) := by decide +kernel
theorem dX9_top_40 : decode cX9_top 40 = .ok (.iconst 1, 1) := by decide +kernel
theorem dX9_top_41 : decode cX9_top 41 = .ok (.invokevirtual 79, 3) := by decide +kernel
theorem dX9_top_44 : decode cX9_top 44 = .ok (.ifCond .ne 27, 3) := by decide +kernel
theorem dX9_top_47 : decode cX9_top 47 = .ok (.aload_n 0, 1) := by decide +kernel
theorem dX9_top_48 : decode cX9_top 48 = .ok (.iload_n 3, 1) := by decide +kernel
theorem dX9_top_49 : decode cX9_top 49 = .ok (.bipush (-9), 2) := by decide +kernel
theorem dX9_top_51 : decode cX9_top 51 = .ok (.bipush 9, 2) := by decide +kernel
theorem dX9_top_53 : decode cX9_top 53 = .ok (.invokestatic 75, 3) := by decide +kernel
theorem dX9_top_56 : decode cX9_top 56 = .ok (.ifCond .ne 7, 3) := by decide +kernel
theorem dX9_top_59 : decode cX9_top 59 = .ok (.iconst 1, 1) := by decide +kernel
theorem dX9_top_60 : decode cX9_top 60 = .ok (.goto 4, 3) := by decide +kernel
theorem dX9_top_63 : decode cX9_top 63 = .ok (.iconst 0, 1) := by decide +kernel
theorem dX9_top_64 : decode cX9_top 64 = .ok (.iconst 2, 1) := by decide +kernel
theorem dX9_top_65 : decode cX9_top 65 = .ok (.invokevirtual 67, 3) := by decide +kernel
theorem dX9_top_68 : decode cX9_top 68 = .ok (.ifCond .eq 5, 3) := by decide +kernel
theorem dX9_top_71 : decode cX9_top 71 = .ok (.iconst 0, 1) := by decide +kernel
theorem dX9_top_72 : decode cX9_top 72 = .ok (.ireturn, 1) := by decide +kernel
theorem dX9_top_73 : decode cX9_top 73 = .ok (.aload_n 0, 1) := by decide +kernel
theorem dX9_top_74 : decode cX9_top 74 = .ok (.getfield 16, 3) := by decide +kernel
theorem dX9_top_77 : decode cX9_top 77 = .ok (.getfield 61, 3) := by decide +kernel
theorem dX9_top_80 : decode cX9_top 80 = .ok (.iload_n 1, 1) := by decide +kernel
theorem dX9_top_81 : decode cX9_top 81 = .ok (.aaload, 1) := by decide +kernel
theorem dX9_top_82 : decode cX9_top 82 = .ok (.iload_n 2, 1) := by decide +kernel
theorem dX9_top_83 : decode cX9_top 83 = .ok (.iaload, 1) := by decide +kernel
theorem dX9_top_84 : decode cX9_top 84 = .ok (.istore 4, 2) := by decide +kernel
theorem dX9_top_86 : decode cX9_top 86 = .ok (.aload_n 0, 1) := by decide +kernel
theorem dX9_top_87 : decode cX9_top 87 = .ok (.getfield 16, 3) := by decide +kernel
theorem dX9_top_90 : decode cX9_top 90 = .ok (.getfield 61, 3) := by decide +kernel
theorem dX9_top_93 : decode cX9_top 93 = .ok (.iload_n 1, 1) := by decide +kernel
theorem dX9_top_94 : decode cX9_top 94 = .ok (.aaload, 1) := by decide +kernel
theorem dX9_top_95 : decode cX9_top 95 = .ok (.iload_n 2, 1) := by decide +kernel
theorem dX9_top_96 : decode cX9_top 96 = .ok (.iload_n 3, 1) := by decide +kernel
theorem dX9_top_97 : decode cX9_top 97 = .ok (.iastore, 1) := by decide +kernel
theorem dX9_top_98 : decode cX9_top 98 = .ok (.iload 4, 2) := by decide +kernel
theorem dX9_top_100 : decode cX9_top 100 = .ok (.ireturn, 1) := by decide +kernel
def fX9_top_i (gwk : Int32) (gwc : Int32) (gwbn : Nat) (gwbk : Nat) (gwbG : Nat → Nat → Int32) (i1 : Int32) (i2 : Int32) (i3 : Int32) : Option (Int32 × Int32 × (Nat → Nat → Int32)) := ((fX9_isIn i1 0 (gwk - 1)).bind fun x_1 => ((((if x_1 = 0 then some 1 else ((fX9_isIn i2 0 (gwc - 1)).bind fun x_37 => (if x_37 = 0 then some 1 else some 0))) : Option (Int32))).bind fun r_11 => ((fX9_start_i r_11 1).bind fun x_12 => (if x_12.1 = 0 then ((fX9_isIn i3 (-9) 9).bind fun x_17 => ((((if x_17 = 0 then some 1 else some 0) : Option (Int32))).bind fun r_22 => ((fX9_refuse_i x_12.2 r_22 2).bind fun x_23 => (if x_23.1 = 0 then (if ¬ (i1 < 0 ∨ gwbn ≤ i1.toNatClampNeg) then (if ¬ (i2 < 0 ∨ gwbk ≤ i2.toNatClampNeg) then (if ¬ (i1 < 0 ∨ gwbn ≤ i1.toNatClampNeg) then (if ¬ (i2 < 0 ∨ gwbk ≤ i2.toNatClampNeg) then some (gwbG i1.toNatClampNeg i2.toNatClampNeg, x_23.2, upg gwbG i1.toNatClampNeg i2.toNatClampNeg i3) else none) else none) else none) else none) else some (0, x_23.2, gwbG))))) else some (0, x_12.2, gwbG)))))
abbrev hX9_top : Cond := .code yX9_top cX9_top 5 (some .int)
theorem mX9_top : yM yX9_top hX9_top 3 := ⟨u_1322, u_64, by decide +kernel, by decide +kernel, by decide +kernel⟩
set_option maxHeartbeats 4000000 in
set_option maxRecDepth 100000 in
theorem kX9_top_i (l : Launch) (D : va_G) (cy : Nat → ClassId) (g : Nat) (gth : Int32) (gw : Nat) (gB : Nat) (gK : Nat) (gU : Nat) (gS : Nat) (gbe : Int32) (gwo : Int32) (gta : Int64) (glr : Int32) (glc : Int32) (gti : Int32) (ggo : Int32) (gR : Nat) (gch : Int32) (gD : Nat) (gwr : Int32) (gwk : Int32) (gwc : Int32) (gwg : Int32) (gws : Int32) (gwa : Nat) (gwb : Nat) (gwbd : Nat → Nat) (gwbn : Nat) (gwbk : Nat) (gwbG : Nat → Nat → Int32) (i1 : Int32) (i2 : Int32) (i3 : Int32) {res : Int32 × Int32 × (Nat → Nat → Int32)} (hR : fX9_top_i gwk gwc gwbn gwbk gwbG i1 i2 i3 = some res) : YM l D cy yX9_top hX9_top 3 0 0 [.ref g, .int i1, .int i2, .int i3] [[(g, .inr (11, [.int gth, .ref gw, .ref gB, .ref gK, .ref gU, .ref gS, .int gbe, .int gwo, .long gta, .null, .int glr, .int glc, .int gti, .int ggo, .ref gR, .int gch, .ref gD]))], [(gw, .inr (10, [.int gwr, .int gwk, .int gwc, .int gwg, .int gws, .ref gwa, .ref gwb]))], [(gwb, .inl (cy 3, gwbn, .inr (.inr (.inr (.inr (yad gwbd))))))], xg_rows gwbd gwbn (cy 1) gwbk gwbG] (fun v u => v = some (.int res.1) ∧ u = [[(g, .inr (11, [.int res.2.1, .ref gw, .ref gB, .ref gK, .ref gU, .ref gS, .int gbe, .int gwo, .long gta, .null, .int glr, .int glc, .int gti, .int ggo, .ref gR, .int gch, .ref gD]))], [(gw, .inr (10, [.int gwr, .int gwk, .int gwc, .int gwg, .int gws, .ref gwa, .ref gwb]))], [(gwb, .inl (cy 3, gwbn, .inr (.inr (.inr (.inr (yad gwbd))))))], xg_rows gwbd gwbn (cy 1) gwbk res.2.2]) := by
  unfold fX9_top_i at hR
  refine YM.ofI (cc := cX9_top) (maxL := 5) (ret := (some .int)) (by decide +kernel) rfl (Nat.le_of_ble_eq_true rfl) [(0, .ref g), (1, .int i1), (2, .int i2), (3, .int i3)] rfl rfl (fun p e s m args below meth c A H0 Q C hnm ret => ?_)
  refine xr_aload_n (n := 1) (j := 0) C dX9_top_0 rfl rfl ?_
  refine xr_iload_n (n := 2) (j := 1) C dX9_top_1 rfl rfl ?_
  refine xr_iconst (n := 3) (v := 0) C dX9_top_2 rfl rfl ?_
  refine xr_aload_n (n := 4) (j := 0) C dX9_top_3 rfl rfl ?_
  refine xr_get (n := 7) C 0 rfl rfl 1 (by decide) in_X9 u_1238 rfl (v := .ref gw) rfl dX9_top_4 rfl ?_
  refine xr_get (n := 10) C 1 rfl rfl 1 (by decide) in_X8 u_1202 rfl (v := .int gwk) rfl dX9_top_7 rfl ?_
  refine xr_iconst (n := 11) (v := 1) C dX9_top_10 rfl rfl ?_
  refine xr_isub (n := 12) C dX9_top_11 rfl ?_
  obtain ⟨x_1, hx_1, hR⟩ := yf_b hR
  refine xr_callSp (n := 15) (As := [.int i1, .int 0, .int (gwk - 1)]) (rest := [.ref g]) C (kX9_isIn l D cy (i1 := i1) (i2 := 0) (i3 := gwk - 1) hx_1) mX9_isIn u_1298 u_1299 4 [] [0, 1, 2, 3] rfl (by decide +kernel) rfl rfl rfl rfl (Nat.le_of_ble_eq_true rfl) (Nat.le_of_ble_eq_true rfl) (Nat.le_of_ble_eq_true rfl) (Nat.le_of_ble_eq_true rfl) (Nat.le_of_ble_eq_true rfl) dX9_top_12 rfl (fun _ _ hp => hp.2) (fun v_2 hp_4 => ?_)
  obtain ⟨rfl, -⟩ := hp_4
  refine xr_st (st' := [.int x_1, .ref g]) rfl ?_
  obtain ⟨r_11, hE_11, hR⟩ := yf_b hR
  have J_11 : X p l e (yR 3 0 0) s m args below meth c D A H0 5 Q [[(g, .inr (11, [.int gth, .ref gw, .ref gB, .ref gK, .ref gU, .ref gS, .int gbe, .int gwo, .long gta, .null, .int glr, .int glc, .int gti, .int ggo, .ref gR, .int gch, .ref gD]))], [(gw, .inr (10, [.int gwr, .int gwk, .int gwc, .int gwg, .int gws, .ref gwa, .ref gwb]))], [(gwb, .inl (cy 3, gwbn, .inr (.inr (.inr (.inr (yad gwbd))))))], xg_rows gwbd gwbn (cy 1) gwbk gwbG] 0 0 [(0, .ref g), (1, .int i1), (2, .int i2), (3, .int i3)] 40 [.int r_11, .ref g] := by
    refine xr_iconst (n := 41) (v := 1) C dX9_top_40 rfl rfl ?_
    obtain ⟨x_12, hx_12, hR⟩ := yf_b hR
    refine xr_callV (n := 44) (As := [.int r_11, .int 1]) (rest := []) C (kX9_start_i l D cy (g := g) (gth := gth) (gw := gw) (gB := gB) (gK := gK) (gU := gU) (gS := gS) (gbe := gbe) (gwo := gwo) (gta := gta) (glr := glr) (glc := glc) (gti := gti) (ggo := ggo) (gR := gR) (gch := gch) (gD := gD) (i1 := r_11) (i2 := 1) hx_12) mX9_start u_1301 u_1303 u_29 0 rfl rfl 4 [0] [1, 2, 3] rfl (by decide +kernel) rfl rfl rfl rfl (Nat.le_of_ble_eq_true rfl) (Nat.le_of_ble_eq_true rfl) (Nat.le_of_ble_eq_true rfl) (Nat.le_of_ble_eq_true rfl) (Nat.le_of_ble_eq_true rfl) dX9_top_41 rfl (fun v_13 u_14 hp_15 => ?_)
    obtain ⟨rfl, rfl⟩ := hp_15
    refine xr_perm C 4 [0, 1, 2, 3] [] [[(g, .inr (11, [.int x_12.2, .ref gw, .ref gB, .ref gK, .ref gU, .ref gS, .int gbe, .int gwo, .long gta, .null, .int glr, .int glc, .int gti, .int ggo, .ref gR, .int gch, .ref gD]))], [(gw, .inr (10, [.int gwr, .int gwk, .int gwc, .int gwg, .int gws, .ref gwa, .ref gwb]))], [(gwb, .inl (cy 3, gwbn, .inr (.inr (.inr (.inr (yad gwbd))))))], xg_rows gwbd gwbn (cy 1) gwbk gwbG] rfl (by decide +kernel) rfl ?_
    refine xr_st (st' := [.int x_12.1]) rfl ?_
    refine xr_if_ne (tgt := 71) (n := 47) C dX9_top_44 rfl rfl (fun c_16 => ?_) (fun c_16 => ?_)
    · replace hR := yf_f c_16 hR
      refine xr_iconst (n := 72) (v := 0) C dX9_top_71 rfl rfl ?_
      obtain rfl := Option.some.inj hR
      exact ret 0 ⟨rfl, rfl⟩ (Nat.le_of_ble_eq_true rfl) (Nat.le_of_ble_eq_true rfl) dX9_top_72
    · replace hR := yf_t c_16 hR
      refine xr_aload_n (n := 48) (j := 0) C dX9_top_47 rfl rfl ?_
      refine xr_iload_n (n := 49) (j := 3) C dX9_top_48 rfl rfl ?_
      refine xr_bipush (n := 51) (v := -9) C dX9_top_49 rfl rfl ?_
      refine xr_bipush (n := 53) (v := 9) C dX9_top_51 rfl rfl ?_
      obtain ⟨x_17, hx_17, hR⟩ := yf_b hR
      refine xr_callSp (n := 56) (As := [.int i3, .int (-9), .int 9]) (rest := [.ref g]) C (kX9_isIn l D cy (i1 := i3) (i2 := -9) (i3 := 9) hx_17) mX9_isIn u_1298 u_1299 4 [] [0, 1, 2, 3] rfl (by decide +kernel) rfl rfl rfl rfl (Nat.le_of_ble_eq_true rfl) (Nat.le_of_ble_eq_true rfl) (Nat.le_of_ble_eq_true rfl) (Nat.le_of_ble_eq_true rfl) (Nat.le_of_ble_eq_true rfl) dX9_top_53 rfl (fun _ _ hp => hp.2) (fun v_18 hp_20 => ?_)
      obtain ⟨rfl, -⟩ := hp_20
      refine xr_st (st' := [.int x_17, .ref g]) rfl ?_
      obtain ⟨r_22, hE_22, hR⟩ := yf_b hR
      have J_22 : X p l e (yR 3 0 0) s m args below meth c D A H0 5 Q [[(g, .inr (11, [.int x_12.2, .ref gw, .ref gB, .ref gK, .ref gU, .ref gS, .int gbe, .int gwo, .long gta, .null, .int glr, .int glc, .int gti, .int ggo, .ref gR, .int gch, .ref gD]))], [(gw, .inr (10, [.int gwr, .int gwk, .int gwc, .int gwg, .int gws, .ref gwa, .ref gwb]))], [(gwb, .inl (cy 3, gwbn, .inr (.inr (.inr (.inr (yad gwbd))))))], xg_rows gwbd gwbn (cy 1) gwbk gwbG] 0 0 [(0, .ref g), (1, .int i1), (2, .int i2), (3, .int i3)] 64 [.int r_22, .ref g] := by
        refine xr_iconst (n := 65) (v := 2) C dX9_top_64 rfl rfl ?_
        obtain ⟨x_23, hx_23, hR⟩ := yf_b hR
        refine xr_callV (n := 68) (As := [.int r_22, .int 2]) (rest := []) C (kX9_refuse_i l D cy (g := g) (gth := x_12.2) (gw := gw) (gB := gB) (gK := gK) (gU := gU) (gS := gS) (gbe := gbe) (gwo := gwo) (gta := gta) (glr := glr) (glc := glc) (gti := gti) (ggo := ggo) (gR := gR) (gch := gch) (gD := gD) (i1 := r_22) (i2 := 2) hx_23) mX9_refuse u_1305 u_1307 u_30 0 rfl rfl 4 [0] [1, 2, 3] rfl (by decide +kernel) rfl rfl rfl rfl (Nat.le_of_ble_eq_true rfl) (Nat.le_of_ble_eq_true rfl) (Nat.le_of_ble_eq_true rfl) (Nat.le_of_ble_eq_true rfl) (Nat.le_of_ble_eq_true rfl) dX9_top_65 rfl (fun v_24 u_25 hp_26 => ?_)
        obtain ⟨rfl, rfl⟩ := hp_26
        refine xr_perm C 4 [0, 1, 2, 3] [] [[(g, .inr (11, [.int x_23.2, .ref gw, .ref gB, .ref gK, .ref gU, .ref gS, .int gbe, .int gwo, .long gta, .null, .int glr, .int glc, .int gti, .int ggo, .ref gR, .int gch, .ref gD]))], [(gw, .inr (10, [.int gwr, .int gwk, .int gwc, .int gwg, .int gws, .ref gwa, .ref gwb]))], [(gwb, .inl (cy 3, gwbn, .inr (.inr (.inr (.inr (yad gwbd))))))], xg_rows gwbd gwbn (cy 1) gwbk gwbG] rfl (by decide +kernel) rfl ?_
        refine xr_st (st' := [.int x_23.1]) rfl ?_
        refine xr_if_eq (tgt := 73) (n := 71) C dX9_top_68 rfl rfl (fun c_27 => ?_) (fun c_27 => ?_)
        · replace hR := yf_t c_27 hR
          refine xr_aload_n (n := 74) (j := 0) C dX9_top_73 rfl rfl ?_
          refine xr_get (n := 77) C 0 rfl rfl 1 (by decide) in_X9 u_1238 rfl (v := .ref gw) rfl dX9_top_74 rfl ?_
          refine xr_get (n := 80) C 1 rfl rfl 6 (by decide) in_X8 u_1213 rfl (v := .ref gwb) rfl dX9_top_77 rfl ?_
          refine xr_iload_n (n := 81) (j := 1) C dX9_top_80 rfl rfl ?_
          obtain ⟨g_28, hR⟩ := yf_g hR
          refine xr_aald (n := 82) C 2 0 rfl 3 rfl rfl g_28 rfl dX9_top_81 rfl ?_
          refine xr_iload_n (n := 83) (j := 2) C dX9_top_82 rfl rfl ?_
          obtain ⟨g_29, hR⟩ := yf_g hR
          refine xr_ialdg (n := 84) C 3 rfl i1.toNatClampNeg (ylt g_28) g_29 dX9_top_83 rfl ?_
          refine xr_istore (n := 86) C [(4, .int (gwbG i1.toNatClampNeg i2.toNatClampNeg)), (0, .ref g), (1, .int i1), (2, .int i2), (3, .int i3)] dX9_top_84 (by decide) rfl rfl ?_
          refine xr_aload_n (n := 87) (j := 1) C dX9_top_86 rfl rfl ?_
          refine xr_get (n := 90) C 0 rfl rfl 1 (by decide) in_X9 u_1238 rfl (v := .ref gw) rfl dX9_top_87 rfl ?_
          refine xr_get (n := 93) C 1 rfl rfl 6 (by decide) in_X8 u_1213 rfl (v := .ref gwb) rfl dX9_top_90 rfl ?_
          refine xr_iload_n (n := 94) (j := 2) C dX9_top_93 rfl rfl ?_
          obtain ⟨g_30, hR⟩ := yf_g hR
          refine xr_aald (n := 95) C 2 0 rfl 3 rfl rfl g_30 rfl dX9_top_94 rfl ?_
          refine xr_iload_n (n := 96) (j := 3) C dX9_top_95 rfl rfl ?_
          refine xr_iload_n (n := 97) (j := 4) C dX9_top_96 rfl rfl ?_
          obtain ⟨g_31, hR⟩ := yf_g hR
          refine xr_iastg (n := 98) C 3 rfl i1.toNatClampNeg (ylt g_30) g_31 [[(g, .inr (11, [.int x_23.2, .ref gw, .ref gB, .ref gK, .ref gU, .ref gS, .int gbe, .int gwo, .long gta, .null, .int glr, .int glc, .int gti, .int ggo, .ref gR, .int gch, .ref gD]))], [(gw, .inr (10, [.int gwr, .int gwk, .int gwc, .int gwg, .int gws, .ref gwa, .ref gwb]))], [(gwb, .inl (cy 3, gwbn, .inr (.inr (.inr (.inr (yad gwbd))))))], xg_rows gwbd gwbn (cy 1) gwbk (upg gwbG i1.toNatClampNeg i2.toNatClampNeg i3)] rfl dX9_top_97 rfl ?_
          refine xr_iload (n := 100) (j := 0) C dX9_top_98 rfl rfl ?_
          obtain rfl := Option.some.inj hR
          exact ret (gwbG i1.toNatClampNeg i2.toNatClampNeg) ⟨rfl, rfl⟩ (Nat.le_of_ble_eq_true rfl) (Nat.le_of_ble_eq_true rfl) dX9_top_100
        · replace hR := yf_f c_27 hR
          refine xr_iconst (n := 72) (v := 0) C dX9_top_71 rfl rfl ?_
          obtain rfl := Option.some.inj hR
          exact ret 0 ⟨rfl, rfl⟩ (Nat.le_of_ble_eq_true rfl) (Nat.le_of_ble_eq_true rfl) dX9_top_72
      refine xr_if_ne (tgt := 63) (n := 59) C dX9_top_56 rfl rfl (fun c_32 => ?_) (fun c_32 => ?_)
      · replace hE_22 := yf_f c_32 hE_22
        refine xr_iconst (n := 64) (v := 0) C dX9_top_63 rfl rfl ?_
        have e_33 := Option.some.inj hE_22
        subst e_33
        exact J_22
      · replace hE_22 := yf_t c_32 hE_22
        refine xr_iconst (n := 60) (v := 1) C dX9_top_59 rfl rfl ?_
        refine xr_goto (tgt := 64) C dX9_top_60 rfl ?_
        have e_34 := Option.some.inj hE_22
        subst e_34
        exact J_22
  refine xr_if_eq (tgt := 35) (n := 18) C dX9_top_15 rfl rfl (fun c_35 => ?_) (fun c_35 => ?_)
  · replace hE_11 := yf_t c_35 hE_11
    refine xr_iconst (n := 36) (v := 1) C dX9_top_35 rfl rfl ?_
    refine xr_goto (tgt := 40) C dX9_top_36 rfl ?_
    have e_36 := Option.some.inj hE_11
    subst e_36
    exact J_11
  · replace hE_11 := yf_f c_35 hE_11
    refine xr_iload_n (n := 19) (j := 2) C dX9_top_18 rfl rfl ?_
    refine xr_iconst (n := 20) (v := 0) C dX9_top_19 rfl rfl ?_
    refine xr_aload_n (n := 21) (j := 0) C dX9_top_20 rfl rfl ?_
    refine xr_get (n := 24) C 0 rfl rfl 1 (by decide) in_X9 u_1238 rfl (v := .ref gw) rfl dX9_top_21 rfl ?_
    refine xr_get (n := 27) C 1 rfl rfl 2 (by decide) in_X8 u_1205 rfl (v := .int gwc) rfl dX9_top_24 rfl ?_
    refine xr_iconst (n := 28) (v := 1) C dX9_top_27 rfl rfl ?_
    refine xr_isub (n := 29) C dX9_top_28 rfl ?_
    obtain ⟨x_37, hx_37, hE_11⟩ := yf_b hE_11
    refine xr_callSp (n := 32) (As := [.int i2, .int 0, .int (gwc - 1)]) (rest := [.ref g]) C (kX9_isIn l D cy (i1 := i2) (i2 := 0) (i3 := gwc - 1) hx_37) mX9_isIn u_1298 u_1299 4 [] [0, 1, 2, 3] rfl (by decide +kernel) rfl rfl rfl rfl (Nat.le_of_ble_eq_true rfl) (Nat.le_of_ble_eq_true rfl) (Nat.le_of_ble_eq_true rfl) (Nat.le_of_ble_eq_true rfl) (Nat.le_of_ble_eq_true rfl) dX9_top_29 rfl (fun _ _ hp => hp.2) (fun v_38 hp_40 => ?_)
    obtain ⟨rfl, -⟩ := hp_40
    refine xr_st (st' := [.int x_37, .ref g]) rfl ?_
    refine xr_if_ne (tgt := 39) (n := 35) C dX9_top_32 rfl rfl (fun c_41 => ?_) (fun c_41 => ?_)
    · replace hE_11 := yf_f c_41 hE_11
      refine xr_iconst (n := 40) (v := 0) C dX9_top_39 rfl rfl ?_
      have e_42 := Option.some.inj hE_11
      subst e_42
      exact J_11
    · replace hE_11 := yf_t c_41 hE_11
      refine xr_iconst (n := 36) (v := 1) C dX9_top_35 rfl rfl ?_
      refine xr_goto (tgt := 40) C dX9_top_36 rfl ?_
      have e_43 := Option.some.inj hE_11
      subst e_43
      exact J_11
def fX9_top_r (gwk : Int32) (gwc : Int32) (gwbn : Nat) (gwbk : Nat) (gwbG : Nat → Nat → Int32) (i1 : Int32) (i2 : Int32) (i3 : Int32) : Option (Int32 × Int32 × (Nat → Nat → Int32)) := ((fX9_isIn i1 0 (gwk - 1)).bind fun x_1 => ((((if x_1 = 0 then some 1 else ((fX9_isIn i2 0 (gwc - 1)).bind fun x_37 => (if x_37 = 0 then some 1 else some 0))) : Option (Int32))).bind fun r_11 => ((fX9_start_r r_11 1).bind fun x_12 => (if x_12.1 = 0 then ((fX9_isIn i3 (-9) 9).bind fun x_17 => ((((if x_17 = 0 then some 1 else some 0) : Option (Int32))).bind fun r_22 => ((fX9_refuse_r x_12.2 r_22 2).bind fun x_23 => (if x_23.1 = 0 then (if ¬ (i1 < 0 ∨ gwbn ≤ i1.toNatClampNeg) then (if ¬ (i2 < 0 ∨ gwbk ≤ i2.toNatClampNeg) then (if ¬ (i1 < 0 ∨ gwbn ≤ i1.toNatClampNeg) then (if ¬ (i2 < 0 ∨ gwbk ≤ i2.toNatClampNeg) then some (gwbG i1.toNatClampNeg i2.toNatClampNeg, x_23.2, upg gwbG i1.toNatClampNeg i2.toNatClampNeg i3) else none) else none) else none) else none) else some (0, x_23.2, gwbG))))) else some (0, x_12.2, gwbG)))))
set_option maxHeartbeats 4000000 in
set_option maxRecDepth 100000 in
theorem kX9_top_r (l : Launch) (D : va_G) (cy : Nat → ClassId) (g : Nat) (gth : Int32) (gw : Nat) (gB : Nat) (gK : Nat) (gU : Nat) (gS : Nat) (gbe : Int32) (gwo : Int32) (gta : Int64) (gn : Nat) (glr : Int32) (glc : Int32) (gti : Int32) (ggo : Int32) (gR : Nat) (gch : Int32) (gD : Nat) (gwr : Int32) (gwk : Int32) (gwc : Int32) (gwg : Int32) (gws : Int32) (gwa : Nat) (gwb : Nat) (gwbd : Nat → Nat) (gwbn : Nat) (gwbk : Nat) (gwbG : Nat → Nat → Int32) (i1 : Int32) (i2 : Int32) (i3 : Int32) {res : Int32 × Int32 × (Nat → Nat → Int32)} (hR : fX9_top_r gwk gwc gwbn gwbk gwbG i1 i2 i3 = some res) : YM l D cy yX9_top hX9_top 3 0 0 [.ref g, .int i1, .int i2, .int i3] [[(g, .inr (11, [.int gth, .ref gw, .ref gB, .ref gK, .ref gU, .ref gS, .int gbe, .int gwo, .long gta, .ref gn, .int glr, .int glc, .int gti, .int ggo, .ref gR, .int gch, .ref gD]))], [(gw, .inr (10, [.int gwr, .int gwk, .int gwc, .int gwg, .int gws, .ref gwa, .ref gwb]))], [(gwb, .inl (cy 3, gwbn, .inr (.inr (.inr (.inr (yad gwbd))))))], xg_rows gwbd gwbn (cy 1) gwbk gwbG] (fun v u => v = some (.int res.1) ∧ u = [[(g, .inr (11, [.int res.2.1, .ref gw, .ref gB, .ref gK, .ref gU, .ref gS, .int gbe, .int gwo, .long gta, .ref gn, .int glr, .int glc, .int gti, .int ggo, .ref gR, .int gch, .ref gD]))], [(gw, .inr (10, [.int gwr, .int gwk, .int gwc, .int gwg, .int gws, .ref gwa, .ref gwb]))], [(gwb, .inl (cy 3, gwbn, .inr (.inr (.inr (.inr (yad gwbd))))))], xg_rows gwbd gwbn (cy 1) gwbk res.2.2]) := by
  unfold fX9_top_r at hR
  refine YM.ofI (cc := cX9_top) (maxL := 5) (ret := (some .int)) (by decide +kernel) rfl (Nat.le_of_ble_eq_true rfl) [(0, .ref g), (1, .int i1), (2, .int i2), (3, .int i3)] rfl rfl (fun p e s m args below meth c A H0 Q C hnm ret => ?_)
  refine xr_aload_n (n := 1) (j := 0) C dX9_top_0 rfl rfl ?_
  refine xr_iload_n (n := 2) (j := 1) C dX9_top_1 rfl rfl ?_
  refine xr_iconst (n := 3) (v := 0) C dX9_top_2 rfl rfl ?_
  refine xr_aload_n (n := 4) (j := 0) C dX9_top_3 rfl rfl ?_
  refine xr_get (n := 7) C 0 rfl rfl 1 (by decide) in_X9 u_1238 rfl (v := .ref gw) rfl dX9_top_4 rfl ?_
  refine xr_get (n := 10) C 1 rfl rfl 1 (by decide) in_X8 u_1202 rfl (v := .int gwk) rfl dX9_top_7 rfl ?_
  refine xr_iconst (n := 11) (v := 1) C dX9_top_10 rfl rfl ?_
  refine xr_isub (n := 12) C dX9_top_11 rfl ?_
  obtain ⟨x_1, hx_1, hR⟩ := yf_b hR
  refine xr_callSp (n := 15) (As := [.int i1, .int 0, .int (gwk - 1)]) (rest := [.ref g]) C (kX9_isIn l D cy (i1 := i1) (i2 := 0) (i3 := gwk - 1) hx_1) mX9_isIn u_1298 u_1299 4 [] [0, 1, 2, 3] rfl (by decide +kernel) rfl rfl rfl rfl (Nat.le_of_ble_eq_true rfl) (Nat.le_of_ble_eq_true rfl) (Nat.le_of_ble_eq_true rfl) (Nat.le_of_ble_eq_true rfl) (Nat.le_of_ble_eq_true rfl) dX9_top_12 rfl (fun _ _ hp => hp.2) (fun v_2 hp_4 => ?_)
  obtain ⟨rfl, -⟩ := hp_4
  refine xr_st (st' := [.int x_1, .ref g]) rfl ?_
  obtain ⟨r_11, hE_11, hR⟩ := yf_b hR
  have J_11 : X p l e (yR 3 0 0) s m args below meth c D A H0 5 Q [[(g, .inr (11, [.int gth, .ref gw, .ref gB, .ref gK, .ref gU, .ref gS, .int gbe, .int gwo, .long gta, .ref gn, .int glr, .int glc, .int gti, .int ggo, .ref gR, .int gch, .ref gD]))], [(gw, .inr (10, [.int gwr, .int gwk, .int gwc, .int gwg, .int gws, .ref gwa, .ref gwb]))], [(gwb, .inl (cy 3, gwbn, .inr (.inr (.inr (.inr (yad gwbd))))))], xg_rows gwbd gwbn (cy 1) gwbk gwbG] 0 0 [(0, .ref g), (1, .int i1), (2, .int i2), (3, .int i3)] 40 [.int r_11, .ref g] := by
    refine xr_iconst (n := 41) (v := 1) C dX9_top_40 rfl rfl ?_
    obtain ⟨x_12, hx_12, hR⟩ := yf_b hR
    refine xr_callV (n := 44) (As := [.int r_11, .int 1]) (rest := []) C (kX9_start_r l D cy (g := g) (gth := gth) (gw := gw) (gB := gB) (gK := gK) (gU := gU) (gS := gS) (gbe := gbe) (gwo := gwo) (gta := gta) (gn := gn) (glr := glr) (glc := glc) (gti := gti) (ggo := ggo) (gR := gR) (gch := gch) (gD := gD) (i1 := r_11) (i2 := 1) hx_12) mX9_start u_1301 u_1303 u_29 0 rfl rfl 4 [0] [1, 2, 3] rfl (by decide +kernel) rfl rfl rfl rfl (Nat.le_of_ble_eq_true rfl) (Nat.le_of_ble_eq_true rfl) (Nat.le_of_ble_eq_true rfl) (Nat.le_of_ble_eq_true rfl) (Nat.le_of_ble_eq_true rfl) dX9_top_41 rfl (fun v_13 u_14 hp_15 => ?_)
    obtain ⟨rfl, rfl⟩ := hp_15
    refine xr_perm C 4 [0, 1, 2, 3] [] [[(g, .inr (11, [.int x_12.2, .ref gw, .ref gB, .ref gK, .ref gU, .ref gS, .int gbe, .int gwo, .long gta, .ref gn, .int glr, .int glc, .int gti, .int ggo, .ref gR, .int gch, .ref gD]))], [(gw, .inr (10, [.int gwr, .int gwk, .int gwc, .int gwg, .int gws, .ref gwa, .ref gwb]))], [(gwb, .inl (cy 3, gwbn, .inr (.inr (.inr (.inr (yad gwbd))))))], xg_rows gwbd gwbn (cy 1) gwbk gwbG] rfl (by decide +kernel) rfl ?_
    refine xr_st (st' := [.int x_12.1]) rfl ?_
    refine xr_if_ne (tgt := 71) (n := 47) C dX9_top_44 rfl rfl (fun c_16 => ?_) (fun c_16 => ?_)
    · replace hR := yf_f c_16 hR
      refine xr_iconst (n := 72) (v := 0) C dX9_top_71 rfl rfl ?_
      obtain rfl := Option.some.inj hR
      exact ret 0 ⟨rfl, rfl⟩ (Nat.le_of_ble_eq_true rfl) (Nat.le_of_ble_eq_true rfl) dX9_top_72
    · replace hR := yf_t c_16 hR
      refine xr_aload_n (n := 48) (j := 0) C dX9_top_47 rfl rfl ?_
      refine xr_iload_n (n := 49) (j := 3) C dX9_top_48 rfl rfl ?_
      refine xr_bipush (n := 51) (v := -9) C dX9_top_49 rfl rfl ?_
      refine xr_bipush (n := 53) (v := 9) C dX9_top_51 rfl rfl ?_
      obtain ⟨x_17, hx_17, hR⟩ := yf_b hR
      refine xr_callSp (n := 56) (As := [.int i3, .int (-9), .int 9]) (rest := [.ref g]) C (kX9_isIn l D cy (i1 := i3) (i2 := -9) (i3 := 9) hx_17) mX9_isIn u_1298 u_1299 4 [] [0, 1, 2, 3] rfl (by decide +kernel) rfl rfl rfl rfl (Nat.le_of_ble_eq_true rfl) (Nat.le_of_ble_eq_true rfl) (Nat.le_of_ble_eq_true rfl) (Nat.le_of_ble_eq_true rfl) (Nat.le_of_ble_eq_true rfl) dX9_top_53 rfl (fun _ _ hp => hp.2) (fun v_18 hp_20 => ?_)
      obtain ⟨rfl, -⟩ := hp_20
      refine xr_st (st' := [.int x_17, .ref g]) rfl ?_
      obtain ⟨r_22, hE_22, hR⟩ := yf_b hR
      have J_22 : X p l e (yR 3 0 0) s m args below meth c D A H0 5 Q [[(g, .inr (11, [.int x_12.2, .ref gw, .ref gB, .ref gK, .ref gU, .ref gS, .int gbe, .int gwo, .long gta, .ref gn, .int glr, .int glc, .int gti, .int ggo, .ref gR, .int gch, .ref gD]))], [(gw, .inr (10, [.int gwr, .int gwk, .int gwc, .int gwg, .int gws, .ref gwa, .ref gwb]))], [(gwb, .inl (cy 3, gwbn, .inr (.inr (.inr (.inr (yad gwbd))))))], xg_rows gwbd gwbn (cy 1) gwbk gwbG] 0 0 [(0, .ref g), (1, .int i1), (2, .int i2), (3, .int i3)] 64 [.int r_22, .ref g] := by
        refine xr_iconst (n := 65) (v := 2) C dX9_top_64 rfl rfl ?_
        obtain ⟨x_23, hx_23, hR⟩ := yf_b hR
        refine xr_callV (n := 68) (As := [.int r_22, .int 2]) (rest := []) C (kX9_refuse_r l D cy (g := g) (gth := x_12.2) (gw := gw) (gB := gB) (gK := gK) (gU := gU) (gS := gS) (gbe := gbe) (gwo := gwo) (gta := gta) (gn := gn) (glr := glr) (glc := glc) (gti := gti) (ggo := ggo) (gR := gR) (gch := gch) (gD := gD) (i1 := r_22) (i2 := 2) hx_23) mX9_refuse u_1305 u_1307 u_30 0 rfl rfl 4 [0] [1, 2, 3] rfl (by decide +kernel) rfl rfl rfl rfl (Nat.le_of_ble_eq_true rfl) (Nat.le_of_ble_eq_true rfl) (Nat.le_of_ble_eq_true rfl) (Nat.le_of_ble_eq_true rfl) (Nat.le_of_ble_eq_true rfl) dX9_top_65 rfl (fun v_24 u_25 hp_26 => ?_)
        obtain ⟨rfl, rfl⟩ := hp_26
        refine xr_perm C 4 [0, 1, 2, 3] [] [[(g, .inr (11, [.int x_23.2, .ref gw, .ref gB, .ref gK, .ref gU, .ref gS, .int gbe, .int gwo, .long gta, .ref gn, .int glr, .int glc, .int gti, .int ggo, .ref gR, .int gch, .ref gD]))], [(gw, .inr (10, [.int gwr, .int gwk, .int gwc, .int gwg, .int gws, .ref gwa, .ref gwb]))], [(gwb, .inl (cy 3, gwbn, .inr (.inr (.inr (.inr (yad gwbd))))))], xg_rows gwbd gwbn (cy 1) gwbk gwbG] rfl (by decide +kernel) rfl ?_
        refine xr_st (st' := [.int x_23.1]) rfl ?_
        refine xr_if_eq (tgt := 73) (n := 71) C dX9_top_68 rfl rfl (fun c_27 => ?_) (fun c_27 => ?_)
        · replace hR := yf_t c_27 hR
          refine xr_aload_n (n := 74) (j := 0) C dX9_top_73 rfl rfl ?_
          refine xr_get (n := 77) C 0 rfl rfl 1 (by decide) in_X9 u_1238 rfl (v := .ref gw) rfl dX9_top_74 rfl ?_
          refine xr_get (n := 80) C 1 rfl rfl 6 (by decide) in_X8 u_1213 rfl (v := .ref gwb) rfl dX9_top_77 rfl ?_
          refine xr_iload_n (n := 81) (j := 1) C dX9_top_80 rfl rfl ?_
          obtain ⟨g_28, hR⟩ := yf_g hR
          refine xr_aald (n := 82) C 2 0 rfl 3 rfl rfl g_28 rfl dX9_top_81 rfl ?_
          refine xr_iload_n (n := 83) (j := 2) C dX9_top_82 rfl rfl ?_
          obtain ⟨g_29, hR⟩ := yf_g hR
          refine xr_ialdg (n := 84) C 3 rfl i1.toNatClampNeg (ylt g_28) g_29 dX9_top_83 rfl ?_
          refine xr_istore (n := 86) C [(4, .int (gwbG i1.toNatClampNeg i2.toNatClampNeg)), (0, .ref g), (1, .int i1), (2, .int i2), (3, .int i3)] dX9_top_84 (by decide) rfl rfl ?_
          refine xr_aload_n (n := 87) (j := 1) C dX9_top_86 rfl rfl ?_
          refine xr_get (n := 90) C 0 rfl rfl 1 (by decide) in_X9 u_1238 rfl (v := .ref gw) rfl dX9_top_87 rfl ?_
          refine xr_get (n := 93) C 1 rfl rfl 6 (by decide) in_X8 u_1213 rfl (v := .ref gwb) rfl dX9_top_90 rfl ?_
          refine xr_iload_n (n := 94) (j := 2) C dX9_top_93 rfl rfl ?_
          obtain ⟨g_30, hR⟩ := yf_g hR
          refine xr_aald (n := 95) C 2 0 rfl 3 rfl rfl g_30 rfl dX9_top_94 rfl ?_
          refine xr_iload_n (n := 96) (j := 3) C dX9_top_95 rfl rfl ?_
          refine xr_iload_n (n := 97) (j := 4) C dX9_top_96 rfl rfl ?_
          obtain ⟨g_31, hR⟩ := yf_g hR
          refine xr_iastg (n := 98) C 3 rfl i1.toNatClampNeg (ylt g_30) g_31 [[(g, .inr (11, [.int x_23.2, .ref gw, .ref gB, .ref gK, .ref gU, .ref gS, .int gbe, .int gwo, .long gta, .ref gn, .int glr, .int glc, .int gti, .int ggo, .ref gR, .int gch, .ref gD]))], [(gw, .inr (10, [.int gwr, .int gwk, .int gwc, .int gwg, .int gws, .ref gwa, .ref gwb]))], [(gwb, .inl (cy 3, gwbn, .inr (.inr (.inr (.inr (yad gwbd))))))], xg_rows gwbd gwbn (cy 1) gwbk (upg gwbG i1.toNatClampNeg i2.toNatClampNeg i3)] rfl dX9_top_97 rfl ?_
          refine xr_iload (n := 100) (j := 0) C dX9_top_98 rfl rfl ?_
          obtain rfl := Option.some.inj hR
          exact ret (gwbG i1.toNatClampNeg i2.toNatClampNeg) ⟨rfl, rfl⟩ (Nat.le_of_ble_eq_true rfl) (Nat.le_of_ble_eq_true rfl) dX9_top_100
        · replace hR := yf_f c_27 hR
          refine xr_iconst (n := 72) (v := 0) C dX9_top_71 rfl rfl ?_
          obtain rfl := Option.some.inj hR
          exact ret 0 ⟨rfl, rfl⟩ (Nat.le_of_ble_eq_true rfl) (Nat.le_of_ble_eq_true rfl) dX9_top_72
      refine xr_if_ne (tgt := 63) (n := 59) C dX9_top_56 rfl rfl (fun c_32 => ?_) (fun c_32 => ?_)
      · replace hE_22 := yf_f c_32 hE_22
        refine xr_iconst (n := 64) (v := 0) C dX9_top_63 rfl rfl ?_
        have e_33 := Option.some.inj hE_22
        subst e_33
        exact J_22
      · replace hE_22 := yf_t c_32 hE_22
        refine xr_iconst (n := 60) (v := 1) C dX9_top_59 rfl rfl ?_
        refine xr_goto (tgt := 64) C dX9_top_60 rfl ?_
        have e_34 := Option.some.inj hE_22
        subst e_34
        exact J_22
  refine xr_if_eq (tgt := 35) (n := 18) C dX9_top_15 rfl rfl (fun c_35 => ?_) (fun c_35 => ?_)
  · replace hE_11 := yf_t c_35 hE_11
    refine xr_iconst (n := 36) (v := 1) C dX9_top_35 rfl rfl ?_
    refine xr_goto (tgt := 40) C dX9_top_36 rfl ?_
    have e_36 := Option.some.inj hE_11
    subst e_36
    exact J_11
  · replace hE_11 := yf_f c_35 hE_11
    refine xr_iload_n (n := 19) (j := 2) C dX9_top_18 rfl rfl ?_
    refine xr_iconst (n := 20) (v := 0) C dX9_top_19 rfl rfl ?_
    refine xr_aload_n (n := 21) (j := 0) C dX9_top_20 rfl rfl ?_
    refine xr_get (n := 24) C 0 rfl rfl 1 (by decide) in_X9 u_1238 rfl (v := .ref gw) rfl dX9_top_21 rfl ?_
    refine xr_get (n := 27) C 1 rfl rfl 2 (by decide) in_X8 u_1205 rfl (v := .int gwc) rfl dX9_top_24 rfl ?_
    refine xr_iconst (n := 28) (v := 1) C dX9_top_27 rfl rfl ?_
    refine xr_isub (n := 29) C dX9_top_28 rfl ?_
    obtain ⟨x_37, hx_37, hE_11⟩ := yf_b hE_11
    refine xr_callSp (n := 32) (As := [.int i2, .int 0, .int (gwc - 1)]) (rest := [.ref g]) C (kX9_isIn l D cy (i1 := i2) (i2 := 0) (i3 := gwc - 1) hx_37) mX9_isIn u_1298 u_1299 4 [] [0, 1, 2, 3] rfl (by decide +kernel) rfl rfl rfl rfl (Nat.le_of_ble_eq_true rfl) (Nat.le_of_ble_eq_true rfl) (Nat.le_of_ble_eq_true rfl) (Nat.le_of_ble_eq_true rfl) (Nat.le_of_ble_eq_true rfl) dX9_top_29 rfl (fun _ _ hp => hp.2) (fun v_38 hp_40 => ?_)
    obtain ⟨rfl, -⟩ := hp_40
    refine xr_st (st' := [.int x_37, .ref g]) rfl ?_
    refine xr_if_ne (tgt := 39) (n := 35) C dX9_top_32 rfl rfl (fun c_41 => ?_) (fun c_41 => ?_)
    · replace hE_11 := yf_f c_41 hE_11
      refine xr_iconst (n := 40) (v := 0) C dX9_top_39 rfl rfl ?_
      have e_42 := Option.some.inj hE_11
      subst e_42
      exact J_11
    · replace hE_11 := yf_t c_41 hE_11
      refine xr_iconst (n := 36) (v := 1) C dX9_top_35 rfl rfl ?_
      refine xr_goto (tgt := 40) C dX9_top_36 rfl ?_
      have e_43 := Option.some.inj hE_11
      subst e_43
      exact J_11
theorem dX9_kind_0 : decode cX9_kind 0 = .ok (.aload_n 0, 1) := by decide +kernel
theorem dX9_kind_1 : decode cX9_kind 1 = .ok (.iload_n 1, 1) := by decide +kernel
theorem dX9_kind_2 : decode cX9_kind 2 = .ok (.iconst 0, 1) := by decide +kernel
theorem dX9_kind_3 : decode cX9_kind 3 = .ok (.iconst 2, 1) := by decide +kernel
theorem dX9_kind_4 : decode cX9_kind 4 = .ok (.invokestatic 75, 3) := by decide +kernel
theorem dX9_kind_7 : decode cX9_kind 7 = .ok (.ifCond .ne 7, 3) := by decide +kernel
theorem dX9_kind_10 : decode cX9_kind 10 = .ok (.iconst 1, 1) := by decide +kernel
theorem dX9_kind_11 : decode cX9_kind 11 = .ok (.goto 4, 3) := by decide +kernel
theorem dX9_kind_14 : decode cX9_kind 14 = .ok (.iconst 0, 1) := by decide +kernel
theorem dX9_kind_15 : decode cX9_kind 15 = .ok (.iconst 1, 1) := by decide +kernel
theorem dX9_kind_16 : decode cX9_kind 16 = .ok (.invokevirtual 79, 3) := by decide +kernel
theorem dX9_kind_19 : decode cX9_kind 19 = .ok (.ifCond .eq 5, 3) := by decide +kernel
theorem dX9_kind_22 : decode cX9_kind 22 = .ok (.iconst 0, 1) := by decide +kernel
theorem dX9_kind_23 : decode cX9_kind 23 = .ok (.ireturn, 1) := by decide +kernel
theorem dX9_kind_24 : decode cX9_kind 24 = .ok (.aload_n 0, 1) := by decide +kernel
theorem dX9_kind_25 : decode cX9_kind 25 = .ok (.getfield 16, 3) := by decide +kernel
theorem dX9_kind_28 : decode cX9_kind 28 = .ok (.getfield 86, 3) := by decide +kernel
theorem dX9_kind_31 : decode cX9_kind 31 = .ok (.istore_n 2, 1) := by decide +kernel
theorem dX9_kind_32 : decode cX9_kind 32 = .ok (.aload_n 0, 1) := by decide +kernel
theorem dX9_kind_33 : decode cX9_kind 33 = .ok (.getfield 16, 3) := by decide +kernel
theorem dX9_kind_36 : decode cX9_kind 36 = .ok (.iload_n 1, 1) := by decide +kernel
theorem dX9_kind_37 : decode cX9_kind 37 = .ok (.putfield 86, 3) := by decide +kernel
theorem dX9_kind_40 : decode cX9_kind 40 = .ok (.aload_n 0, 1) := by decide +kernel
theorem dX9_kind_41 : decode cX9_kind 41 = .ok (.getfield 16, 3) := by decide +kernel
theorem dX9_kind_44 : decode cX9_kind 44 = .ok (.dup, 1) := by decide +kernel
theorem dX9_kind_45 : decode cX9_kind 45 = .ok (.getfield 89, 3) := by decide +kernel
theorem dX9_kind_48 : decode cX9_kind 48 = .ok (.iload_n 1, 1) := by decide +kernel
theorem dX9_kind_49 : decode cX9_kind 49 = .ok (.ifCond .ne 7, 3) := by decide +kernel
theorem dX9_kind_52 : decode cX9_kind 52 = .ok (.iconst 1, 1) := by decide +kernel
theorem dX9_kind_53 : decode cX9_kind 53 = .ok (.goto 4, 3) := by decide +kernel
theorem dX9_kind_56 : decode cX9_kind 56 = .ok (.iconst 0, 1) := by decide +kernel
theorem dX9_kind_57 : decode cX9_kind 57 = .ok (.iand, 1) := by decide +kernel
theorem dX9_kind_58 : decode cX9_kind 58 = .ok (.putfield 89, 3) := by decide +kernel
theorem dX9_kind_61 : decode cX9_kind 61 = .ok (.iload_n 2, 1) := by decide +kernel
theorem dX9_kind_62 : decode cX9_kind 62 = .ok (.ireturn, 1) := by decide +kernel
def fX9_kind_i (gwg : Int32) (gws : Int32) (i1 : Int32) : Option (Int32 × Int32 × Int32 × Int32) := ((fX9_isIn i1 0 2).bind fun x_1 => ((((if x_1 = 0 then some 1 else some 0) : Option (Int32))).bind fun r_6 => ((fX9_start_i r_6 1).bind fun x_7 => (if x_7.1 = 0 then ((((if i1 = 0 then some 1 else some 0) : Option (Int32))).bind fun r_13 => (if (gws &&& r_13) = 0 ∨ (gws &&& r_13) = 1 then some (gwg, x_7.2, i1, gws &&& r_13) else none)) else some (0, x_7.2, gwg, gws)))))
abbrev hX9_kind : Cond := .code yX9_kind cX9_kind 3 (some .int)
theorem mX9_kind : yM yX9_kind hX9_kind 1 := ⟨u_1326, u_64, by decide +kernel, by decide +kernel, by decide +kernel⟩
set_option maxHeartbeats 4000000 in
set_option maxRecDepth 100000 in
theorem kX9_kind_i (l : Launch) (D : va_G) (cy : Nat → ClassId) (g : Nat) (gth : Int32) (gw : Nat) (gB : Nat) (gK : Nat) (gU : Nat) (gS : Nat) (gbe : Int32) (gwo : Int32) (gta : Int64) (glr : Int32) (glc : Int32) (gti : Int32) (ggo : Int32) (gR : Nat) (gch : Int32) (gD : Nat) (gwr : Int32) (gwk : Int32) (gwc : Int32) (gwg : Int32) (gws : Int32) (gwa : Nat) (gwb : Nat) (i1 : Int32) {res : Int32 × Int32 × Int32 × Int32} (hR : fX9_kind_i gwg gws i1 = some res) : YM l D cy yX9_kind hX9_kind 3 0 0 [.ref g, .int i1] [[(g, .inr (11, [.int gth, .ref gw, .ref gB, .ref gK, .ref gU, .ref gS, .int gbe, .int gwo, .long gta, .null, .int glr, .int glc, .int gti, .int ggo, .ref gR, .int gch, .ref gD]))], [(gw, .inr (10, [.int gwr, .int gwk, .int gwc, .int gwg, .int gws, .ref gwa, .ref gwb]))]] (fun v u => v = some (.int res.1) ∧ u = [[(g, .inr (11, [.int res.2.1, .ref gw, .ref gB, .ref gK, .ref gU, .ref gS, .int gbe, .int gwo, .long gta, .null, .int glr, .int glc, .int gti, .int ggo, .ref gR, .int gch, .ref gD]))], [(gw, .inr (10, [.int gwr, .int gwk, .int gwc, .int res.2.2.1, .int res.2.2.2, .ref gwa, .ref gwb]))]]) := by
  unfold fX9_kind_i at hR
  refine YM.ofI (cc := cX9_kind) (maxL := 3) (ret := (some .int)) (by decide +kernel) rfl (Nat.le_of_ble_eq_true rfl) [(0, .ref g), (1, .int i1)] rfl rfl (fun p e s m args below meth c A H0 Q C hnm ret => ?_)
  refine xr_aload_n (n := 1) (j := 0) C dX9_kind_0 rfl rfl ?_
  refine xr_iload_n (n := 2) (j := 1) C dX9_kind_1 rfl rfl ?_
  refine xr_iconst (n := 3) (v := 0) C dX9_kind_2 rfl rfl ?_
  refine xr_iconst (n := 4) (v := 2) C dX9_kind_3 rfl rfl ?_
  obtain ⟨x_1, hx_1, hR⟩ := yf_b hR
  refine xr_callSp (n := 7) (As := [.int i1, .int 0, .int 2]) (rest := [.ref g]) C (kX9_isIn l D cy (i1 := i1) (i2 := 0) (i3 := 2) hx_1) mX9_isIn u_1298 u_1299 2 [] [0, 1] rfl (by decide +kernel) rfl rfl rfl rfl (Nat.le_of_ble_eq_true rfl) (Nat.le_of_ble_eq_true rfl) (Nat.le_of_ble_eq_true rfl) (Nat.le_of_ble_eq_true rfl) (Nat.le_of_ble_eq_true rfl) dX9_kind_4 rfl (fun _ _ hp => hp.2) (fun v_2 hp_4 => ?_)
  obtain ⟨rfl, -⟩ := hp_4
  refine xr_st (st' := [.int x_1, .ref g]) rfl ?_
  obtain ⟨r_6, hE_6, hR⟩ := yf_b hR
  have J_6 : X p l e (yR 3 0 0) s m args below meth c D A H0 3 Q [[(g, .inr (11, [.int gth, .ref gw, .ref gB, .ref gK, .ref gU, .ref gS, .int gbe, .int gwo, .long gta, .null, .int glr, .int glc, .int gti, .int ggo, .ref gR, .int gch, .ref gD]))], [(gw, .inr (10, [.int gwr, .int gwk, .int gwc, .int gwg, .int gws, .ref gwa, .ref gwb]))]] 0 0 [(0, .ref g), (1, .int i1)] 15 [.int r_6, .ref g] := by
    refine xr_iconst (n := 16) (v := 1) C dX9_kind_15 rfl rfl ?_
    obtain ⟨x_7, hx_7, hR⟩ := yf_b hR
    refine xr_callV (n := 19) (As := [.int r_6, .int 1]) (rest := []) C (kX9_start_i l D cy (g := g) (gth := gth) (gw := gw) (gB := gB) (gK := gK) (gU := gU) (gS := gS) (gbe := gbe) (gwo := gwo) (gta := gta) (glr := glr) (glc := glc) (gti := gti) (ggo := ggo) (gR := gR) (gch := gch) (gD := gD) (i1 := r_6) (i2 := 1) hx_7) mX9_start u_1301 u_1303 u_29 0 rfl rfl 2 [0] [1] rfl (by decide +kernel) rfl rfl rfl rfl (Nat.le_of_ble_eq_true rfl) (Nat.le_of_ble_eq_true rfl) (Nat.le_of_ble_eq_true rfl) (Nat.le_of_ble_eq_true rfl) (Nat.le_of_ble_eq_true rfl) dX9_kind_16 rfl (fun v_8 u_9 hp_10 => ?_)
    obtain ⟨rfl, rfl⟩ := hp_10
    refine xr_perm C 2 [0, 1] [] [[(g, .inr (11, [.int x_7.2, .ref gw, .ref gB, .ref gK, .ref gU, .ref gS, .int gbe, .int gwo, .long gta, .null, .int glr, .int glc, .int gti, .int ggo, .ref gR, .int gch, .ref gD]))], [(gw, .inr (10, [.int gwr, .int gwk, .int gwc, .int gwg, .int gws, .ref gwa, .ref gwb]))]] rfl (by decide +kernel) rfl ?_
    refine xr_st (st' := [.int x_7.1]) rfl ?_
    refine xr_if_eq (tgt := 24) (n := 22) C dX9_kind_19 rfl rfl (fun c_11 => ?_) (fun c_11 => ?_)
    · replace hR := yf_t c_11 hR
      refine xr_aload_n (n := 25) (j := 0) C dX9_kind_24 rfl rfl ?_
      refine xr_get (n := 28) C 0 rfl rfl 1 (by decide) in_X9 u_1238 rfl (v := .ref gw) rfl dX9_kind_25 rfl ?_
      refine xr_get (n := 31) C 1 rfl rfl 3 (by decide) in_X8 u_1207 rfl (v := .int gwg) rfl dX9_kind_28 rfl ?_
      refine xr_istore_n (n := 32) C [(2, .int gwg), (0, .ref g), (1, .int i1)] dX9_kind_31 (by decide) rfl rfl ?_
      refine xr_aload_n (n := 33) (j := 1) C dX9_kind_32 rfl rfl ?_
      refine xr_get (n := 36) C 0 rfl rfl 1 (by decide) in_X9 u_1238 rfl (v := .ref gw) rfl dX9_kind_33 rfl ?_
      refine xr_iload_n (n := 37) (j := 2) C dX9_kind_36 rfl rfl ?_
      refine xr_put (n := 40) C 1 rfl rfl 3 (by decide) in_X8 tyX8 tyX8_ok nmX8 u_1207 rfl rfl rfl rfl (Nat.le_of_ble_eq_true rfl) [[(g, .inr (11, [.int x_7.2, .ref gw, .ref gB, .ref gK, .ref gU, .ref gS, .int gbe, .int gwo, .long gta, .null, .int glr, .int glc, .int gti, .int ggo, .ref gR, .int gch, .ref gD]))], [(gw, .inr (10, [.int gwr, .int gwk, .int gwc, .int i1, .int gws, .ref gwa, .ref gwb]))]] rfl rfl dX9_kind_37 ?_
      refine xr_aload_n (n := 41) (j := 1) C dX9_kind_40 rfl rfl ?_
      refine xr_get (n := 44) C 0 rfl rfl 1 (by decide) in_X9 u_1238 rfl (v := .ref gw) rfl dX9_kind_41 rfl ?_
      refine xr_dup (n := 45) C dX9_kind_44 rfl rfl ?_
      refine xr_get (n := 48) C 1 rfl rfl 4 (by decide) in_X8 u_1209 rfl (v := .int gws) rfl dX9_kind_45 rfl ?_
      refine xr_iload_n (n := 49) (j := 2) C dX9_kind_48 rfl rfl ?_
      obtain ⟨r_13, hE_13, hR⟩ := yf_b hR
      have J_13 : X p l e (yR 3 0 0) s m args below meth c D A H0 3 Q [[(g, .inr (11, [.int x_7.2, .ref gw, .ref gB, .ref gK, .ref gU, .ref gS, .int gbe, .int gwo, .long gta, .null, .int glr, .int glc, .int gti, .int ggo, .ref gR, .int gch, .ref gD]))], [(gw, .inr (10, [.int gwr, .int gwk, .int gwc, .int i1, .int gws, .ref gwa, .ref gwb]))]] 0 0 [(2, .int gwg)] 57 [.int r_13, .int gws, .ref gw] := by
        refine xr_iand (n := 58) C dX9_kind_57 rfl ?_
        obtain ⟨g_14, hR⟩ := yf_g hR
        refine xr_put (n := 61) C 1 rfl rfl 4 (by decide) in_X8 tyX8 tyX8_ok nmX8 u_1209 rfl rfl (ynz_f g_14) (ynz_n g_14) (Nat.le_of_ble_eq_true rfl) [[(g, .inr (11, [.int x_7.2, .ref gw, .ref gB, .ref gK, .ref gU, .ref gS, .int gbe, .int gwo, .long gta, .null, .int glr, .int glc, .int gti, .int ggo, .ref gR, .int gch, .ref gD]))], [(gw, .inr (10, [.int gwr, .int gwk, .int gwc, .int i1, .int (gws &&& r_13), .ref gwa, .ref gwb]))]] rfl rfl dX9_kind_58 ?_
        refine xr_iload_n (n := 62) (j := 0) C dX9_kind_61 rfl rfl ?_
        obtain rfl := Option.some.inj hR
        exact ret gwg ⟨rfl, rfl⟩ (Nat.le_of_ble_eq_true rfl) (Nat.le_of_ble_eq_true rfl) dX9_kind_62
      refine xr_if_ne (tgt := 56) (n := 52) C dX9_kind_49 rfl rfl (fun c_15 => ?_) (fun c_15 => ?_)
      · replace hE_13 := yf_f c_15 hE_13
        refine xr_iconst (n := 57) (v := 0) C dX9_kind_56 rfl rfl ?_
        refine xr_lv (lv' := [(2, .int gwg)]) [0] rfl ?_
        have e_16 := Option.some.inj hE_13
        subst e_16
        exact J_13
      · replace hE_13 := yf_t c_15 hE_13
        refine xr_iconst (n := 53) (v := 1) C dX9_kind_52 rfl rfl ?_
        refine xr_goto (tgt := 57) C dX9_kind_53 rfl ?_
        refine xr_lv (lv' := [(2, .int gwg)]) [0] rfl ?_
        have e_17 := Option.some.inj hE_13
        subst e_17
        exact J_13
    · replace hR := yf_f c_11 hR
      refine xr_iconst (n := 23) (v := 0) C dX9_kind_22 rfl rfl ?_
      obtain rfl := Option.some.inj hR
      exact ret 0 ⟨rfl, rfl⟩ (Nat.le_of_ble_eq_true rfl) (Nat.le_of_ble_eq_true rfl) dX9_kind_23
  refine xr_if_ne (tgt := 14) (n := 10) C dX9_kind_7 rfl rfl (fun c_18 => ?_) (fun c_18 => ?_)
  · replace hE_6 := yf_f c_18 hE_6
    refine xr_iconst (n := 15) (v := 0) C dX9_kind_14 rfl rfl ?_
    have e_19 := Option.some.inj hE_6
    subst e_19
    exact J_6
  · replace hE_6 := yf_t c_18 hE_6
    refine xr_iconst (n := 11) (v := 1) C dX9_kind_10 rfl rfl ?_
    refine xr_goto (tgt := 15) C dX9_kind_11 rfl ?_
    have e_20 := Option.some.inj hE_6
    subst e_20
    exact J_6
def fX9_kind_r (gwg : Int32) (gws : Int32) (i1 : Int32) : Option (Int32 × Int32 × Int32 × Int32) := ((fX9_isIn i1 0 2).bind fun x_1 => ((((if x_1 = 0 then some 1 else some 0) : Option (Int32))).bind fun r_6 => ((fX9_start_r r_6 1).bind fun x_7 => (if x_7.1 = 0 then ((((if i1 = 0 then some 1 else some 0) : Option (Int32))).bind fun r_13 => (if (gws &&& r_13) = 0 ∨ (gws &&& r_13) = 1 then some (gwg, x_7.2, i1, gws &&& r_13) else none)) else some (0, x_7.2, gwg, gws)))))
set_option maxHeartbeats 4000000 in
set_option maxRecDepth 100000 in
theorem kX9_kind_r (l : Launch) (D : va_G) (cy : Nat → ClassId) (g : Nat) (gth : Int32) (gw : Nat) (gB : Nat) (gK : Nat) (gU : Nat) (gS : Nat) (gbe : Int32) (gwo : Int32) (gta : Int64) (gn : Nat) (glr : Int32) (glc : Int32) (gti : Int32) (ggo : Int32) (gR : Nat) (gch : Int32) (gD : Nat) (gwr : Int32) (gwk : Int32) (gwc : Int32) (gwg : Int32) (gws : Int32) (gwa : Nat) (gwb : Nat) (i1 : Int32) {res : Int32 × Int32 × Int32 × Int32} (hR : fX9_kind_r gwg gws i1 = some res) : YM l D cy yX9_kind hX9_kind 3 0 0 [.ref g, .int i1] [[(g, .inr (11, [.int gth, .ref gw, .ref gB, .ref gK, .ref gU, .ref gS, .int gbe, .int gwo, .long gta, .ref gn, .int glr, .int glc, .int gti, .int ggo, .ref gR, .int gch, .ref gD]))], [(gw, .inr (10, [.int gwr, .int gwk, .int gwc, .int gwg, .int gws, .ref gwa, .ref gwb]))]] (fun v u => v = some (.int res.1) ∧ u = [[(g, .inr (11, [.int res.2.1, .ref gw, .ref gB, .ref gK, .ref gU, .ref gS, .int gbe, .int gwo, .long gta, .ref gn, .int glr, .int glc, .int gti, .int ggo, .ref gR, .int gch, .ref gD]))], [(gw, .inr (10, [.int gwr, .int gwk, .int gwc, .int res.2.2.1, .int res.2.2.2, .ref gwa, .ref gwb]))]]) := by
  unfold fX9_kind_r at hR
  refine YM.ofI (cc := cX9_kind) (maxL := 3) (ret := (some .int)) (by decide +kernel) rfl (Nat.le_of_ble_eq_true rfl) [(0, .ref g), (1, .int i1)] rfl rfl (fun p e s m args below meth c A H0 Q C hnm ret => ?_)
  refine xr_aload_n (n := 1) (j := 0) C dX9_kind_0 rfl rfl ?_
  refine xr_iload_n (n := 2) (j := 1) C dX9_kind_1 rfl rfl ?_
  refine xr_iconst (n := 3) (v := 0) C dX9_kind_2 rfl rfl ?_
  refine xr_iconst (n := 4) (v := 2) C dX9_kind_3 rfl rfl ?_
  obtain ⟨x_1, hx_1, hR⟩ := yf_b hR
  refine xr_callSp (n := 7) (As := [.int i1, .int 0, .int 2]) (rest := [.ref g]) C (kX9_isIn l D cy (i1 := i1) (i2 := 0) (i3 := 2) hx_1) mX9_isIn u_1298 u_1299 2 [] [0, 1] rfl (by decide +kernel) rfl rfl rfl rfl (Nat.le_of_ble_eq_true rfl) (Nat.le_of_ble_eq_true rfl) (Nat.le_of_ble_eq_true rfl) (Nat.le_of_ble_eq_true rfl) (Nat.le_of_ble_eq_true rfl) dX9_kind_4 rfl (fun _ _ hp => hp.2) (fun v_2 hp_4 => ?_)
  obtain ⟨rfl, -⟩ := hp_4
  refine xr_st (st' := [.int x_1, .ref g]) rfl ?_
  obtain ⟨r_6, hE_6, hR⟩ := yf_b hR
  have J_6 : X p l e (yR 3 0 0) s m args below meth c D A H0 3 Q [[(g, .inr (11, [.int gth, .ref gw, .ref gB, .ref gK, .ref gU, .ref gS, .int gbe, .int gwo, .long gta, .ref gn, .int glr, .int glc, .int gti, .int ggo, .ref gR, .int gch, .ref gD]))], [(gw, .inr (10, [.int gwr, .int gwk, .int gwc, .int gwg, .int gws, .ref gwa, .ref gwb]))]] 0 0 [(0, .ref g), (1, .int i1)] 15 [.int r_6, .ref g] := by
    refine xr_iconst (n := 16) (v := 1) C dX9_kind_15 rfl rfl ?_
    obtain ⟨x_7, hx_7, hR⟩ := yf_b hR
    refine xr_callV (n := 19) (As := [.int r_6, .int 1]) (rest := []) C (kX9_start_r l D cy (g := g) (gth := gth) (gw := gw) (gB := gB) (gK := gK) (gU := gU) (gS := gS) (gbe := gbe) (gwo := gwo) (gta := gta) (gn := gn) (glr := glr) (glc := glc) (gti := gti) (ggo := ggo) (gR := gR) (gch := gch) (gD := gD) (i1 := r_6) (i2 := 1) hx_7) mX9_start u_1301 u_1303 u_29 0 rfl rfl 2 [0] [1] rfl (by decide +kernel) rfl rfl rfl rfl (Nat.le_of_ble_eq_true rfl) (Nat.le_of_ble_eq_true rfl) (Nat.le_of_ble_eq_true rfl) (Nat.le_of_ble_eq_true rfl) (Nat.le_of_ble_eq_true rfl) dX9_kind_16 rfl (fun v_8 u_9 hp_10 => ?_)
    obtain ⟨rfl, rfl⟩ := hp_10
    refine xr_perm C 2 [0, 1] [] [[(g, .inr (11, [.int x_7.2, .ref gw, .ref gB, .ref gK, .ref gU, .ref gS, .int gbe, .int gwo, .long gta, .ref gn, .int glr, .int glc, .int gti, .int ggo, .ref gR, .int gch, .ref gD]))], [(gw, .inr (10, [.int gwr, .int gwk, .int gwc, .int gwg, .int gws, .ref gwa, .ref gwb]))]] rfl (by decide +kernel) rfl ?_
    refine xr_st (st' := [.int x_7.1]) rfl ?_
    refine xr_if_eq (tgt := 24) (n := 22) C dX9_kind_19 rfl rfl (fun c_11 => ?_) (fun c_11 => ?_)
    · replace hR := yf_t c_11 hR
      refine xr_aload_n (n := 25) (j := 0) C dX9_kind_24 rfl rfl ?_
      refine xr_get (n := 28) C 0 rfl rfl 1 (by decide) in_X9 u_1238 rfl (v := .ref gw) rfl dX9_kind_25 rfl ?_
      refine xr_get (n := 31) C 1 rfl rfl 3 (by decide) in_X8 u_1207 rfl (v := .int gwg) rfl dX9_kind_28 rfl ?_
      refine xr_istore_n (n := 32) C [(2, .int gwg), (0, .ref g), (1, .int i1)] dX9_kind_31 (by decide) rfl rfl ?_
      refine xr_aload_n (n := 33) (j := 1) C dX9_kind_32 rfl rfl ?_
      refine xr_get (n := 36) C 0 rfl rfl 1 (by decide) in_X9 u_1238 rfl (v := .ref gw) rfl dX9_kind_33 rfl ?_
      refine xr_iload_n (n := 37) (j := 2) C dX9_kind_36 rfl rfl ?_
      refine xr_put (n := 40) C 1 rfl rfl 3 (by decide) in_X8 tyX8 tyX8_ok nmX8 u_1207 rfl rfl rfl rfl (Nat.le_of_ble_eq_true rfl) [[(g, .inr (11, [.int x_7.2, .ref gw, .ref gB, .ref gK, .ref gU, .ref gS, .int gbe, .int gwo, .long gta, .ref gn, .int glr, .int glc, .int gti, .int ggo, .ref gR, .int gch, .ref gD]))], [(gw, .inr (10, [.int gwr, .int gwk, .int gwc, .int i1, .int gws, .ref gwa, .ref gwb]))]] rfl rfl dX9_kind_37 ?_
      refine xr_aload_n (n := 41) (j := 1) C dX9_kind_40 rfl rfl ?_
      refine xr_get (n := 44) C 0 rfl rfl 1 (by decide) in_X9 u_1238 rfl (v := .ref gw) rfl dX9_kind_41 rfl ?_
      refine xr_dup (n := 45) C dX9_kind_44 rfl rfl ?_
      refine xr_get (n := 48) C 1 rfl rfl 4 (by decide) in_X8 u_1209 rfl (v := .int gws) rfl dX9_kind_45 rfl ?_
      refine xr_iload_n (n := 49) (j := 2) C dX9_kind_48 rfl rfl ?_
      obtain ⟨r_13, hE_13, hR⟩ := yf_b hR
      have J_13 : X p l e (yR 3 0 0) s m args below meth c D A H0 3 Q [[(g, .inr (11, [.int x_7.2, .ref gw, .ref gB, .ref gK, .ref gU, .ref gS, .int gbe, .int gwo, .long gta, .ref gn, .int glr, .int glc, .int gti, .int ggo, .ref gR, .int gch, .ref gD]))], [(gw, .inr (10, [.int gwr, .int gwk, .int gwc, .int i1, .int gws, .ref gwa, .ref gwb]))]] 0 0 [(2, .int gwg)] 57 [.int r_13, .int gws, .ref gw] := by
        refine xr_iand (n := 58) C dX9_kind_57 rfl ?_
        obtain ⟨g_14, hR⟩ := yf_g hR
        refine xr_put (n := 61) C 1 rfl rfl 4 (by decide) in_X8 tyX8 tyX8_ok nmX8 u_1209 rfl rfl (ynz_f g_14) (ynz_n g_14) (Nat.le_of_ble_eq_true rfl) [[(g, .inr (11, [.int x_7.2, .ref gw, .ref gB, .ref gK, .ref gU, .ref gS, .int gbe, .int gwo, .long gta, .ref gn, .int glr, .int glc, .int gti, .int ggo, .ref gR, .int gch, .ref gD]))], [(gw, .inr (10, [.int gwr, .int gwk, .int gwc, .int i1, .int (gws &&& r_13), .ref gwa, .ref gwb]))]] rfl rfl dX9_kind_58 ?_
        refine xr_iload_n (n := 62) (j := 0) C dX9_kind_61 rfl rfl ?_
        obtain rfl := Option.some.inj hR
        exact ret gwg ⟨rfl, rfl⟩ (Nat.le_of_ble_eq_true rfl) (Nat.le_of_ble_eq_true rfl) dX9_kind_62
      refine xr_if_ne (tgt := 56) (n := 52) C dX9_kind_49 rfl rfl (fun c_15 => ?_) (fun c_15 => ?_)
      · replace hE_13 := yf_f c_15 hE_13
        refine xr_iconst (n := 57) (v := 0) C dX9_kind_56 rfl rfl ?_
        refine xr_lv (lv' := [(2, .int gwg)]) [0] rfl ?_
        have e_16 := Option.some.inj hE_13
        subst e_16
        exact J_13
      · replace hE_13 := yf_t c_15 hE_13
        refine xr_iconst (n := 53) (v := 1) C dX9_kind_52 rfl rfl ?_
        refine xr_goto (tgt := 57) C dX9_kind_53 rfl ?_
        refine xr_lv (lv' := [(2, .int gwg)]) [0] rfl ?_
        have e_17 := Option.some.inj hE_13
        subst e_17
        exact J_13
    · replace hR := yf_f c_11 hR
      refine xr_iconst (n := 23) (v := 0) C dX9_kind_22 rfl rfl ?_
      obtain rfl := Option.some.inj hR
      exact ret 0 ⟨rfl, rfl⟩ (Nat.le_of_ble_eq_true rfl) (Nat.le_of_ble_eq_true rfl) dX9_kind_23
  refine xr_if_ne (tgt := 14) (n := 10) C dX9_kind_7 rfl rfl (fun c_18 => ?_) (fun c_18 => ?_)
  · replace hE_6 := yf_f c_18 hE_6
    refine xr_iconst (n := 15) (v := 0) C dX9_kind_14 rfl rfl ?_
    have e_19 := Option.some.inj hE_6
    subst e_19
    exact J_6
  · replace hE_6 := yf_t c_18 hE_6
    refine xr_iconst (n := 11) (v := 1) C dX9_kind_10 rfl rfl ?_
    refine xr_goto (tgt := 15) C dX9_kind_11 rfl ?_
    have e_20 := Option.some.inj hE_6
    subst e_20
    exact J_6
theorem dX9_checked_0 : decode cX9_checked 0 = .ok (.aload_n 0, 1) := by decide +kernel
theorem dX9_checked_1 : decode cX9_checked 1 = .ok (.iload_n 1, 1) := by decide +kernel
theorem dX9_checked_2 : decode cX9_checked 2 = .ok (.ifCond .eq 17, 3) := by decide +kernel
theorem dX9_checked_5 : decode cX9_checked 5 = .ok (.aload_n 0, 1) := by decide +kernel
theorem dX9_checked_6 : decode cX9_checked 6 = .ok (.getfield 16, 3) := by decide +kernel
theorem dX9_checked_9 : decode cX9_checked 9 = .ok (.getfield 86, 3) := by decide +kernel
theorem dX9_checked_12 : decode cX9_checked 12 = .ok (.ifCond .eq 7, 3) := by decide +kernel
theorem dX9_checked_15 : decode cX9_checked 15 = .ok (.iconst 1, 1) := by decide +kernel
theorem dX9_checked_16 : decode cX9_checked 16 = .ok (.goto 4, 3) := by decide +kernel
theorem dX9_checked_19 : decode cX9_checked 19 = .ok (.iconst 0, 1) := by decide +kernel
theorem dX9_checked_20 : decode cX9_checked 20 = .ok (.iconst 1, 1) := by decide +kernel
theorem dX9_checked_21 : decode cX9_checked 21 = .ok (.invokevirtual 79, 3) := by decide +kernel
theorem dX9_checked_24 : decode cX9_checked 24 = .ok (.ifCond .eq 5, 3) := by decide +kernel
theorem dX9_checked_27 : decode cX9_checked 27 = .ok (.iconst 0, 1) := by decide +kernel
theorem dX9_checked_28 : decode cX9_checked 28 = .ok (.ireturn, 1) := by decide +kernel
theorem dX9_checked_29 : decode cX9_checked 29 = .ok (.aload_n 0, 1) := by decide +kernel
theorem dX9_checked_30 : decode cX9_checked 30 = .ok (.getfield 16, 3) := by decide +kernel
theorem dX9_checked_33 : decode cX9_checked 33 = .ok (.getfield 89, 3) := by decide +kernel
theorem dX9_checked_36 : decode cX9_checked 36 = .ok (.istore_n 2, 1) := by decide +kernel
theorem dX9_checked_37 : decode cX9_checked 37 = .ok (.aload_n 0, 1) := by decide +kernel
theorem dX9_checked_38 : decode cX9_checked 38 = .ok (.getfield 16, 3) := by decide +kernel
theorem dX9_checked_41 : decode cX9_checked 41 = .ok (.iload_n 1, 1) := by decide +kernel
theorem dX9_checked_42 : decode cX9_checked 42 = .ok (.putfield 89, 3) := by decide +kernel
theorem dX9_checked_45 : decode cX9_checked 45 = .ok (.iload_n 2, 1) := by decide +kernel
theorem dX9_checked_46 : decode cX9_checked 46 = .ok (.ireturn, 1) := by decide +kernel
def fX9_checked_i (gwg : Int32) (gws : Int32) (i1 : Int32) : Option (Int32 × Int32 × Int32) := ((((if i1 = 0 then some 0 else (if gwg = 0 then some 0 else some 1)) : Option (Int32))).bind fun r_3 => ((fX9_start_i r_3 1).bind fun x_4 => (if x_4.1 = 0 then (if i1 = 0 ∨ i1 = 1 then (if gws = 0 ∨ gws = 1 then some (gws, x_4.2, i1) else none) else none) else some (0, x_4.2, gws))))
abbrev hX9_checked : Cond := .code yX9_checked cX9_checked 3 (some .boolean)
theorem mX9_checked : yM yX9_checked hX9_checked 1 := ⟨u_1330, u_64, by decide +kernel, by decide +kernel, by decide +kernel⟩
set_option maxHeartbeats 4000000 in
set_option maxRecDepth 100000 in
theorem kX9_checked_i (l : Launch) (D : va_G) (cy : Nat → ClassId) (g : Nat) (gth : Int32) (gw : Nat) (gB : Nat) (gK : Nat) (gU : Nat) (gS : Nat) (gbe : Int32) (gwo : Int32) (gta : Int64) (glr : Int32) (glc : Int32) (gti : Int32) (ggo : Int32) (gR : Nat) (gch : Int32) (gD : Nat) (gwr : Int32) (gwk : Int32) (gwc : Int32) (gwg : Int32) (gws : Int32) (gwa : Nat) (gwb : Nat) (i1 : Int32) {res : Int32 × Int32 × Int32} (hR : fX9_checked_i gwg gws i1 = some res) : YM l D cy yX9_checked hX9_checked 3 0 0 [.ref g, .int i1] [[(g, .inr (11, [.int gth, .ref gw, .ref gB, .ref gK, .ref gU, .ref gS, .int gbe, .int gwo, .long gta, .null, .int glr, .int glc, .int gti, .int ggo, .ref gR, .int gch, .ref gD]))], [(gw, .inr (10, [.int gwr, .int gwk, .int gwc, .int gwg, .int gws, .ref gwa, .ref gwb]))]] (fun v u => v = some (.int res.1) ∧ u = [[(g, .inr (11, [.int res.2.1, .ref gw, .ref gB, .ref gK, .ref gU, .ref gS, .int gbe, .int gwo, .long gta, .null, .int glr, .int glc, .int gti, .int ggo, .ref gR, .int gch, .ref gD]))], [(gw, .inr (10, [.int gwr, .int gwk, .int gwc, .int gwg, .int res.2.2, .ref gwa, .ref gwb]))]]) := by
  unfold fX9_checked_i at hR
  refine YM.ofZ (cc := cX9_checked) (maxL := 3) (ret := (some .boolean)) (by decide +kernel) rfl (Nat.le_of_ble_eq_true rfl) [(0, .ref g), (1, .int i1)] rfl .boolean rfl (fun p e s m args below meth c A H0 Q C hnm ret => ?_)
  refine xr_aload_n (n := 1) (j := 0) C dX9_checked_0 rfl rfl ?_
  refine xr_iload_n (n := 2) (j := 1) C dX9_checked_1 rfl rfl ?_
  obtain ⟨r_3, hE_3, hR⟩ := yf_b hR
  have J_3 : X p l e (yR 3 0 0) s m args below meth c D A H0 3 Q [[(g, .inr (11, [.int gth, .ref gw, .ref gB, .ref gK, .ref gU, .ref gS, .int gbe, .int gwo, .long gta, .null, .int glr, .int glc, .int gti, .int ggo, .ref gR, .int gch, .ref gD]))], [(gw, .inr (10, [.int gwr, .int gwk, .int gwc, .int gwg, .int gws, .ref gwa, .ref gwb]))]] 0 0 [(0, .ref g), (1, .int i1)] 20 [.int r_3, .ref g] := by
    refine xr_iconst (n := 21) (v := 1) C dX9_checked_20 rfl rfl ?_
    obtain ⟨x_4, hx_4, hR⟩ := yf_b hR
    refine xr_callV (n := 24) (As := [.int r_3, .int 1]) (rest := []) C (kX9_start_i l D cy (g := g) (gth := gth) (gw := gw) (gB := gB) (gK := gK) (gU := gU) (gS := gS) (gbe := gbe) (gwo := gwo) (gta := gta) (glr := glr) (glc := glc) (gti := gti) (ggo := ggo) (gR := gR) (gch := gch) (gD := gD) (i1 := r_3) (i2 := 1) hx_4) mX9_start u_1301 u_1303 u_29 0 rfl rfl 2 [0] [1] rfl (by decide +kernel) rfl rfl rfl rfl (Nat.le_of_ble_eq_true rfl) (Nat.le_of_ble_eq_true rfl) (Nat.le_of_ble_eq_true rfl) (Nat.le_of_ble_eq_true rfl) (Nat.le_of_ble_eq_true rfl) dX9_checked_21 rfl (fun v_5 u_6 hp_7 => ?_)
    obtain ⟨rfl, rfl⟩ := hp_7
    refine xr_perm C 2 [0, 1] [] [[(g, .inr (11, [.int x_4.2, .ref gw, .ref gB, .ref gK, .ref gU, .ref gS, .int gbe, .int gwo, .long gta, .null, .int glr, .int glc, .int gti, .int ggo, .ref gR, .int gch, .ref gD]))], [(gw, .inr (10, [.int gwr, .int gwk, .int gwc, .int gwg, .int gws, .ref gwa, .ref gwb]))]] rfl (by decide +kernel) rfl ?_
    refine xr_st (st' := [.int x_4.1]) rfl ?_
    refine xr_if_eq (tgt := 29) (n := 27) C dX9_checked_24 rfl rfl (fun c_8 => ?_) (fun c_8 => ?_)
    · replace hR := yf_t c_8 hR
      refine xr_aload_n (n := 30) (j := 0) C dX9_checked_29 rfl rfl ?_
      refine xr_get (n := 33) C 0 rfl rfl 1 (by decide) in_X9 u_1238 rfl (v := .ref gw) rfl dX9_checked_30 rfl ?_
      refine xr_get (n := 36) C 1 rfl rfl 4 (by decide) in_X8 u_1209 rfl (v := .int gws) rfl dX9_checked_33 rfl ?_
      refine xr_istore_n (n := 37) C [(2, .int gws), (0, .ref g), (1, .int i1)] dX9_checked_36 (by decide) rfl rfl ?_
      refine xr_aload_n (n := 38) (j := 1) C dX9_checked_37 rfl rfl ?_
      refine xr_get (n := 41) C 0 rfl rfl 1 (by decide) in_X9 u_1238 rfl (v := .ref gw) rfl dX9_checked_38 rfl ?_
      refine xr_iload_n (n := 42) (j := 2) C dX9_checked_41 rfl rfl ?_
      obtain ⟨g_9, hR⟩ := yf_g hR
      refine xr_put (n := 45) C 1 rfl rfl 4 (by decide) in_X8 tyX8 tyX8_ok nmX8 u_1209 rfl rfl (ynz_f g_9) (ynz_n g_9) (Nat.le_of_ble_eq_true rfl) [[(g, .inr (11, [.int x_4.2, .ref gw, .ref gB, .ref gK, .ref gU, .ref gS, .int gbe, .int gwo, .long gta, .null, .int glr, .int glc, .int gti, .int ggo, .ref gR, .int gch, .ref gD]))], [(gw, .inr (10, [.int gwr, .int gwk, .int gwc, .int gwg, .int i1, .ref gwa, .ref gwb]))]] rfl rfl dX9_checked_42 ?_
      refine xr_iload_n (n := 46) (j := 0) C dX9_checked_45 rfl rfl ?_
      obtain ⟨g_10, hR⟩ := yf_g hR
      obtain rfl := Option.some.inj hR
      exact ret gws (ynz_n g_10) ⟨rfl, rfl⟩ (Nat.le_of_ble_eq_true rfl) (Nat.le_of_ble_eq_true rfl) dX9_checked_46
    · replace hR := yf_f c_8 hR
      refine xr_iconst (n := 28) (v := 0) C dX9_checked_27 rfl rfl ?_
      obtain rfl := Option.some.inj hR
      exact ret 0 (by decide) ⟨rfl, rfl⟩ (Nat.le_of_ble_eq_true rfl) (Nat.le_of_ble_eq_true rfl) dX9_checked_28
  refine xr_if_eq (tgt := 19) (n := 5) C dX9_checked_2 rfl rfl (fun c_11 => ?_) (fun c_11 => ?_)
  · replace hE_3 := yf_t c_11 hE_3
    refine xr_iconst (n := 20) (v := 0) C dX9_checked_19 rfl rfl ?_
    have e_12 := Option.some.inj hE_3
    subst e_12
    exact J_3
  · replace hE_3 := yf_f c_11 hE_3
    refine xr_aload_n (n := 6) (j := 0) C dX9_checked_5 rfl rfl ?_
    refine xr_get (n := 9) C 0 rfl rfl 1 (by decide) in_X9 u_1238 rfl (v := .ref gw) rfl dX9_checked_6 rfl ?_
    refine xr_get (n := 12) C 1 rfl rfl 3 (by decide) in_X8 u_1207 rfl (v := .int gwg) rfl dX9_checked_9 rfl ?_
    refine xr_if_eq (tgt := 19) (n := 15) C dX9_checked_12 rfl rfl (fun c_13 => ?_) (fun c_13 => ?_)
    · replace hE_3 := yf_t c_13 hE_3
      refine xr_iconst (n := 20) (v := 0) C dX9_checked_19 rfl rfl ?_
      have e_14 := Option.some.inj hE_3
      subst e_14
      exact J_3
    · replace hE_3 := yf_f c_13 hE_3
      refine xr_iconst (n := 16) (v := 1) C dX9_checked_15 rfl rfl ?_
      refine xr_goto (tgt := 20) C dX9_checked_16 rfl ?_
      have e_15 := Option.some.inj hE_3
      subst e_15
      exact J_3
def fX9_checked_r (gwg : Int32) (gws : Int32) (i1 : Int32) : Option (Int32 × Int32 × Int32) := ((((if i1 = 0 then some 0 else (if gwg = 0 then some 0 else some 1)) : Option (Int32))).bind fun r_3 => ((fX9_start_r r_3 1).bind fun x_4 => (if x_4.1 = 0 then (if i1 = 0 ∨ i1 = 1 then (if gws = 0 ∨ gws = 1 then some (gws, x_4.2, i1) else none) else none) else some (0, x_4.2, gws))))
set_option maxHeartbeats 4000000 in
set_option maxRecDepth 100000 in
theorem kX9_checked_r (l : Launch) (D : va_G) (cy : Nat → ClassId) (g : Nat) (gth : Int32) (gw : Nat) (gB : Nat) (gK : Nat) (gU : Nat) (gS : Nat) (gbe : Int32) (gwo : Int32) (gta : Int64) (gn : Nat) (glr : Int32) (glc : Int32) (gti : Int32) (ggo : Int32) (gR : Nat) (gch : Int32) (gD : Nat) (gwr : Int32) (gwk : Int32) (gwc : Int32) (gwg : Int32) (gws : Int32) (gwa : Nat) (gwb : Nat) (i1 : Int32) {res : Int32 × Int32 × Int32} (hR : fX9_checked_r gwg gws i1 = some res) : YM l D cy yX9_checked hX9_checked 3 0 0 [.ref g, .int i1] [[(g, .inr (11, [.int gth, .ref gw, .ref gB, .ref gK, .ref gU, .ref gS, .int gbe, .int gwo, .long gta, .ref gn, .int glr, .int glc, .int gti, .int ggo, .ref gR, .int gch, .ref gD]))], [(gw, .inr (10, [.int gwr, .int gwk, .int gwc, .int gwg, .int gws, .ref gwa, .ref gwb]))]] (fun v u => v = some (.int res.1) ∧ u = [[(g, .inr (11, [.int res.2.1, .ref gw, .ref gB, .ref gK, .ref gU, .ref gS, .int gbe, .int gwo, .long gta, .ref gn, .int glr, .int glc, .int gti, .int ggo, .ref gR, .int gch, .ref gD]))], [(gw, .inr (10, [.int gwr, .int gwk, .int gwc, .int gwg, .int res.2.2, .ref gwa, .ref gwb]))]]) := by
  unfold fX9_checked_r at hR
  refine YM.ofZ (cc := cX9_checked) (maxL := 3) (ret := (some .boolean)) (by decide +kernel) rfl (Nat.le_of_ble_eq_true rfl) [(0, .ref g), (1, .int i1)] rfl .boolean rfl (fun p e s m args below meth c A H0 Q C hnm ret => ?_)
  refine xr_aload_n (n := 1) (j := 0) C dX9_checked_0 rfl rfl ?_
  refine xr_iload_n (n := 2) (j := 1) C dX9_checked_1 rfl rfl ?_
  obtain ⟨r_3, hE_3, hR⟩ := yf_b hR
  have J_3 : X p l e (yR 3 0 0) s m args below meth c D A H0 3 Q [[(g, .inr (11, [.int gth, .ref gw, .ref gB, .ref gK, .ref gU, .ref gS, .int gbe, .int gwo, .long gta, .ref gn, .int glr, .int glc, .int gti, .int ggo, .ref gR, .int gch, .ref gD]))], [(gw, .inr (10, [.int gwr, .int gwk, .int gwc, .int gwg, .int gws, .ref gwa, .ref gwb]))]] 0 0 [(0, .ref g), (1, .int i1)] 20 [.int r_3, .ref g] := by
    refine xr_iconst (n := 21) (v := 1) C dX9_checked_20 rfl rfl ?_
    obtain ⟨x_4, hx_4, hR⟩ := yf_b hR
    refine xr_callV (n := 24) (As := [.int r_3, .int 1]) (rest := []) C (kX9_start_r l D cy (g := g) (gth := gth) (gw := gw) (gB := gB) (gK := gK) (gU := gU) (gS := gS) (gbe := gbe) (gwo := gwo) (gta := gta) (gn := gn) (glr := glr) (glc := glc) (gti := gti) (ggo := ggo) (gR := gR) (gch := gch) (gD := gD) (i1 := r_3) (i2 := 1) hx_4) mX9_start u_1301 u_1303 u_29 0 rfl rfl 2 [0] [1] rfl (by decide +kernel) rfl rfl rfl rfl (Nat.le_of_ble_eq_true rfl) (Nat.le_of_ble_eq_true rfl) (Nat.le_of_ble_eq_true rfl) (Nat.le_of_ble_eq_true rfl) (Nat.le_of_ble_eq_true rfl) dX9_checked_21 rfl (fun v_5 u_6 hp_7 => ?_)
    obtain ⟨rfl, rfl⟩ := hp_7
    refine xr_perm C 2 [0, 1] [] [[(g, .inr (11, [.int x_4.2, .ref gw, .ref gB, .ref gK, .ref gU, .ref gS, .int gbe, .int gwo, .long gta, .ref gn, .int glr, .int glc, .int gti, .int ggo, .ref gR, .int gch, .ref gD]))], [(gw, .inr (10, [.int gwr, .int gwk, .int gwc, .int gwg, .int gws, .ref gwa, .ref gwb]))]] rfl (by decide +kernel) rfl ?_
    refine xr_st (st' := [.int x_4.1]) rfl ?_
    refine xr_if_eq (tgt := 29) (n := 27) C dX9_checked_24 rfl rfl (fun c_8 => ?_) (fun c_8 => ?_)
    · replace hR := yf_t c_8 hR
      refine xr_aload_n (n := 30) (j := 0) C dX9_checked_29 rfl rfl ?_
      refine xr_get (n := 33) C 0 rfl rfl 1 (by decide) in_X9 u_1238 rfl (v := .ref gw) rfl dX9_checked_30 rfl ?_
      refine xr_get (n := 36) C 1 rfl rfl 4 (by decide) in_X8 u_1209 rfl (v := .int gws) rfl dX9_checked_33 rfl ?_
      refine xr_istore_n (n := 37) C [(2, .int gws), (0, .ref g), (1, .int i1)] dX9_checked_36 (by decide) rfl rfl ?_
      refine xr_aload_n (n := 38) (j := 1) C dX9_checked_37 rfl rfl ?_
      refine xr_get (n := 41) C 0 rfl rfl 1 (by decide) in_X9 u_1238 rfl (v := .ref gw) rfl dX9_checked_38 rfl ?_
      refine xr_iload_n (n := 42) (j := 2) C dX9_checked_41 rfl rfl ?_
      obtain ⟨g_9, hR⟩ := yf_g hR
      refine xr_put (n := 45) C 1 rfl rfl 4 (by decide) in_X8 tyX8 tyX8_ok nmX8 u_1209 rfl rfl (ynz_f g_9) (ynz_n g_9) (Nat.le_of_ble_eq_true rfl) [[(g, .inr (11, [.int x_4.2, .ref gw, .ref gB, .ref gK, .ref gU, .ref gS, .int gbe, .int gwo, .long gta, .ref gn, .int glr, .int glc, .int gti, .int ggo, .ref gR, .int gch, .ref gD]))], [(gw, .inr (10, [.int gwr, .int gwk, .int gwc, .int gwg, .int i1, .ref gwa, .ref gwb]))]] rfl rfl dX9_checked_42 ?_
      refine xr_iload_n (n := 46) (j := 0) C dX9_checked_45 rfl rfl ?_
      obtain ⟨g_10, hR⟩ := yf_g hR
      obtain rfl := Option.some.inj hR
      exact ret gws (ynz_n g_10) ⟨rfl, rfl⟩ (Nat.le_of_ble_eq_true rfl) (Nat.le_of_ble_eq_true rfl) dX9_checked_46
    · replace hR := yf_f c_8 hR
      refine xr_iconst (n := 28) (v := 0) C dX9_checked_27 rfl rfl ?_
      obtain rfl := Option.some.inj hR
      exact ret 0 (by decide) ⟨rfl, rfl⟩ (Nat.le_of_ble_eq_true rfl) (Nat.le_of_ble_eq_true rfl) dX9_checked_28
  refine xr_if_eq (tgt := 19) (n := 5) C dX9_checked_2 rfl rfl (fun c_11 => ?_) (fun c_11 => ?_)
  · replace hE_3 := yf_t c_11 hE_3
    refine xr_iconst (n := 20) (v := 0) C dX9_checked_19 rfl rfl ?_
    have e_12 := Option.some.inj hE_3
    subst e_12
    exact J_3
  · replace hE_3 := yf_f c_11 hE_3
    refine xr_aload_n (n := 6) (j := 0) C dX9_checked_5 rfl rfl ?_
    refine xr_get (n := 9) C 0 rfl rfl 1 (by decide) in_X9 u_1238 rfl (v := .ref gw) rfl dX9_checked_6 rfl ?_
    refine xr_get (n := 12) C 1 rfl rfl 3 (by decide) in_X8 u_1207 rfl (v := .int gwg) rfl dX9_checked_9 rfl ?_
    refine xr_if_eq (tgt := 19) (n := 15) C dX9_checked_12 rfl rfl (fun c_13 => ?_) (fun c_13 => ?_)
    · replace hE_3 := yf_t c_13 hE_3
      refine xr_iconst (n := 20) (v := 0) C dX9_checked_19 rfl rfl ?_
      have e_14 := Option.some.inj hE_3
      subst e_14
      exact J_3
    · replace hE_3 := yf_f c_13 hE_3
      refine xr_iconst (n := 16) (v := 1) C dX9_checked_15 rfl rfl ?_
      refine xr_goto (tgt := 20) C dX9_checked_16 rfl ?_
      have e_15 := Option.some.inj hE_3
      subst e_15
      exact J_3
