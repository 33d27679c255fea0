theorem u_1312 : Cond.methodLink RX9 71 yX9_one ∈ yU := yu_tables_1_6 56 (by decide +kernel) (by decide +kernel)
theorem u_1311 : Cond.code yX9_others cX9_others 10 (some .int) ∈ yU := yu_tables_1_6 55 (by decide +kernel) (by decide +kernel)
theorem u_1238 : Cond.fieldLink RX9 16 "PulsemeshModel" "work" "LPulsemeshModel$Work;" ∈ yU := yu_tables_1_5 222 (by decide +kernel) (by decide +kernel)
theorem u_1201 : Cond.fieldLink RX9 48 "PulsemeshModel$Work" "\x72" "I" ∈ yU := yu_tables_1_5 185 (by decide +kernel) (by decide +kernel)
theorem u_1298 : Cond.methodLink RX9 75 yX9_isIn ∈ yU := yu_tables_1_6 42 (by decide +kernel) (by decide +kernel)
theorem u_1299 : Cond.static yX9_isIn ∈ yU := yu_tables_1_6 43 (by decide +kernel) (by decide +kernel)
theorem u_1202 : Cond.fieldLink RX9 52 "PulsemeshModel$Work" "k" "I" ∈ yU := yu_tables_1_5 186 (by decide +kernel) (by decide +kernel)
theorem u_1301 : Cond.methodLink RX9 79 yX9_start ∈ yU := yu_tables_1_6 45 (by decide +kernel) (by decide +kernel)
theorem u_1303 : Cond.instanceMethod yX9_start ∈ yU := yu_tables_1_6 47 (by decide +kernel) (by decide +kernel)
theorem u_29 : Cond.selects RX9 yX9_start yX9_start ∈ yU := yu 29 (by decide +kernel) (by decide +kernel)
theorem u_1211 : Cond.fieldLink RX9 58 "PulsemeshModel$Work" "a" "[[I" ∈ yU := yu_tables_1_5 195 (by decide +kernel) (by decide +kernel)
theorem u_1318 : Cond.code yX9_left cX9_left 5 (some .int) ∈ yU := yu_tables_1_6 62 (by decide +kernel) (by decide +kernel)
theorem u_1205 : Cond.fieldLink RX9 55 "PulsemeshModel$Work" "c" "I" ∈ yU := yu_tables_1_5 189 (by decide +kernel) (by decide +kernel)
theorem u_1213 : Cond.fieldLink RX9 61 "PulsemeshModel$Work" "b" "[[I" ∈ yU := yu_tables_1_5 197 (by decide +kernel) (by decide +kernel)
theorem u_1322 : Cond.code yX9_top cX9_top 5 (some .int) ∈ yU := yu_tables_1_6 66 (by decide +kernel) (by decide +kernel)
def fX9_start_r (i1 : Int32) (i2 : Int32) : Option (Int32 × Int32) := ((fX9_refuse_r 0 i1 i2).bind fun x_1 => (if x_1.1 = 0 ∨ x_1.1 = 1 then some (x_1.1, x_1.2) else none))
set_option maxHeartbeats 4000000 in
set_option maxRecDepth 100000 in
theorem kX9_start_r (l : Launch) (D : va_G) (cy : Nat → ClassId) (g : Nat) (gth : Int32) (gw : Nat) (gB : Nat) (gK : Nat) (gU : Nat) (gS : Nat) (gbe : Int32) (gwo : Int32) (gta : Int64) (gn : Nat) (glr : Int32) (glc : Int32) (gti : Int32) (ggo : Int32) (gR : Nat) (gch : Int32) (gD : Nat) (i1 : Int32) (i2 : Int32) {res : Int32 × Int32} (hR : fX9_start_r i1 i2 = some res) : YM l D cy yX9_start hX9_start 2 0 0 [.ref g, .int i1, .int i2] [[(g, .inr (11, [.int gth, .ref gw, .ref gB, .ref gK, .ref gU, .ref gS, .int gbe, .int gwo, .long gta, .ref gn, .int glr, .int glc, .int gti, .int ggo, .ref gR, .int gch, .ref gD]))]] (fun v u => v = some (.int res.1) ∧ u = [[(g, .inr (11, [.int res.2, .ref gw, .ref gB, .ref gK, .ref gU, .ref gS, .int gbe, .int gwo, .long gta, .ref gn, .int glr, .int glc, .int gti, .int ggo, .ref gR, .int gch, .ref gD]))]]) := by
  unfold fX9_start_r at hR
  refine YM.ofZ (cc := cX9_start) (maxL := 3) (ret := (some .boolean)) (by decide +kernel) rfl (Nat.le_of_ble_eq_true rfl) [(0, .ref g), (1, .int i1), (2, .int i2)] rfl .boolean rfl (fun p e s m args below meth c A H0 Q C hnm ret => ?_)
  refine xr_aload_n (n := 1) (j := 0) C dd_X9_start_0.1 rfl rfl ?_
  refine xr_iconst (n := 2) (v := 0) C dd_X9_start_0.2.1 rfl rfl ?_
  refine xr_put (n := 5) C 0 rfl rfl 0 (by decide) in_X9 tyX9 tyX9_ok nmX9 u_1237 rfl rfl rfl rfl (Nat.le_of_ble_eq_true rfl) [[(g, .inr (11, [.int 0, .ref gw, .ref gB, .ref gK, .ref gU, .ref gS, .int gbe, .int gwo, .long gta, .ref gn, .int glr, .int glc, .int gti, .int ggo, .ref gR, .int gch, .ref gD]))]] rfl rfl dd_X9_start_0.2.2.1 ?_
  refine xr_aload_n (n := 6) (j := 0) C dd_X9_start_0.2.2.2.1 rfl rfl ?_
  refine xr_iload_n (n := 7) (j := 1) C dd_X9_start_0.2.2.2.2.1 rfl rfl ?_
  refine xr_iload_n (n := 8) (j := 2) C dd_X9_start_0.2.2.2.2.2.1 rfl rfl ?_
  obtain ⟨x_1, hx_1, hR⟩ := yf_b hR
  refine xr_callV (n := 11) (As := [.int i1, .int i2]) (rest := []) C (kX9_refuse_r l D cy (g := g) (gth := 0) (gw := gw) (gB := gB) (gK := gK) (gU := gU) (gS := gS) (gbe := gbe) (gwo := gwo) (gta := gta) (gn := gn) (glr := glr) (glc := glc) (gti := gti) (ggo := ggo) (gR := gR) (gch := gch) (gD := gD) (i1 := i1) (i2 := i2) hx_1) mX9_refuse u_1305 u_1307 u_30 0 rfl rfl 1 [0] [] rfl (by decide +kernel) rfl rfl rfl rfl (Nat.le_of_ble_eq_true rfl) (Nat.le_of_ble_eq_true rfl) (Nat.le_of_ble_eq_true rfl) (Nat.le_of_ble_eq_true rfl) (Nat.le_of_ble_eq_true rfl) dd_X9_start_0.2.2.2.2.2.2.1 rfl (fun v_2 u_3 hp_4 => ?_)
  obtain ⟨rfl, rfl⟩ := hp_4
  refine xr_perm C 1 [0] [] [[(g, .inr (11, [.int x_1.2, .ref gw, .ref gB, .ref gK, .ref gU, .ref gS, .int gbe, .int gwo, .long gta, .ref gn, .int glr, .int glc, .int gti, .int ggo, .ref gR, .int gch, .ref gD]))]] rfl (by decide +kernel) rfl ?_
  refine xr_st (st' := [.int x_1.1]) rfl ?_
  obtain ⟨g_5, hR⟩ := yf_g hR
  obtain rfl := Option.some.inj hR
  exact ret x_1.1 (ynz_n g_5) ⟨rfl, rfl⟩ (Nat.le_of_ble_eq_true rfl) (Nat.le_of_ble_eq_true rfl) dd_X9_start_0.2.2.2.2.2.2.2.1
theorem dd_X9_others_0 : dk_R cX9_others [(0, .iconst 0, 1), (1, .istore_n 1, 1), (2, .aload_n 0, 1), (3, .astore_n 2, 1), (4, .aload_n 2, 1), (5, .arraylength, 1), (6, .istore_n 3, 1), (7, .iconst 0, 1), (8, .istore 4, 2), (10, .iload 4, 2), (12, .iload_n 3, 1), (13, .if_icmp .ge 63, 3), (16, .aload_n 2, 1), (17, .iload 4, 2), (19, .aaload, 1), (20, .astore 5, 2)] := dk_use _ _ (by decide +kernel)
theorem dd_X9_others_1 : dk_R cX9_others [(22, .aload 5, 2), (24, .astore 6, 2), (26, .aload 6, 2), (28, .arraylength, 1), (29, .istore 7, 2), (31, .iconst 0, 1), (32, .istore 8, 2), (34, .iload 8, 2), (36, .iload 7, 2), (38, .if_icmp .ge 32, 3), (41, .aload 6, 2), (43, .iload 8, 2), (45, .iaload, 1), (46, .istore 9, 2), (48, .iload_n 1, 1), (49, .iload 9, 2)] := dk_use _ _ (by decide +kernel)
theorem dd_X9_others_2 : dk_R cX9_others [(51, .ifCond .eq 7, 3), (54, .iconst 1, 1), (55, .goto 4, 3), (58, .iconst 0, 1), (59, .invokestatic 71, 3), (62, .iadd, 1), (63, .istore_n 1, 1), (64, .iinc 8 1, 3), (67, .goto (-33), 3), (70, .iinc 4 1, 3), (73, .goto (-63), 3), (76, .iload_n 1, 1), (77, .ireturn, 1)] := dk_use _ _ (by decide +kernel)
def fX9_others (hn : Nat) (hk : Nat) (hG : Nat → Nat → Int32) : Option (Int32) := ((wl (S := Int32 × Int32) (B := Int32 × Int32) (fun s_1 => (if (nI hn) ≤ s_1.2 then some (.inr (s_1.1, s_1.2)) else (if ¬ (s_1.2 < 0 ∨ hn ≤ s_1.2.toNatClampNeg) then ((wl (S := Int32 × Int32) (B := Int32 × Int32) (fun s_5 => (if (nI hk) ≤ s_5.2 then some (.inr (s_5.1, s_5.2)) else (if ¬ (s_5.2 < 0 ∨ hk ≤ s_5.2.toNatClampNeg) then (ylet (hG s_1.2.toNatClampNeg s_5.2.toNatClampNeg : Int32) fun y_9 => ((((if y_9 = 0 then some 0 else some 1) : Option (Int32))).bind fun r_11 => ((fX9_one r_11).bind fun x_12 => some (.inl (s_5.1 + x_12, s_5.2 + 1))))) else none))) yFuel (s_1.1, 0)).bind fun b_5 => some (.inl (b_5.1, s_1.2 + 1))) else none))) yFuel (0, 0)).bind fun b_1 => some b_1.1)
abbrev hX9_others : Cond := .code yX9_others cX9_others 10 (some .int)
theorem mX9_others : yM yX9_others hX9_others 1 := ⟨u_1311, u_64, by decide +kernel, by decide +kernel, by decide +kernel⟩
set_option maxHeartbeats 4000000 in
set_option maxRecDepth 100000 in
theorem kX9_others (l : Launch) (D : va_G) (cy : Nat → ClassId) (h : Nat) (hd : Nat → Nat) (hn : Nat) (hk : Nat) (hG : Nat → Nat → Int32) {res : Int32} (hR : fX9_others hn hk hG = some res) : YM l D cy yX9_others hX9_others 2 0 0 [.ref h] [[(h, .inl (cy 3, hn, .inr (.inr (.inr (.inr (yad hd))))))], xg_rows hd hn (cy 1) hk hG] (fun v u => v = some (.int res) ∧ u = [[(h, .inl (cy 3, hn, .inr (.inr (.inr (.inr (yad hd))))))], xg_rows hd hn (cy 1) hk hG]) := by
  unfold fX9_others at hR
  refine YM.ofI (cc := cX9_others) (maxL := 10) (ret := (some .int)) (by decide +kernel) rfl (Nat.le_of_ble_eq_true rfl) [(0, .ref h)] rfl rfl (fun p e s m args below meth c A H0 Q C hnm ret => ?_)
  refine xr_iconst (n := 1) (v := 0) C dd_X9_others_0.1 rfl rfl ?_
  refine xr_istore_n (n := 2) C [(1, .int 0), (0, .ref h)] dd_X9_others_0.2.1 (by decide) rfl rfl ?_
  refine xr_aload_n (n := 3) (j := 1) C dd_X9_others_0.2.2.1 rfl rfl ?_
  refine xr_astore_n (n := 4) C [(2, .ref h), (1, .int 0), (0, .ref h)] dd_X9_others_0.2.2.2.1 (by decide) rfl rfl ?_
  refine xr_aload_n (n := 5) (j := 0) C dd_X9_others_0.2.2.2.2.1 rfl rfl ?_
  refine xr_alen (n := 6) C 0 0 rfl 3 rfl rfl dd_X9_others_0.2.2.2.2.2.1 rfl ?_
  refine xr_istore_n (n := 7) C [(3, .int (nI hn)), (2, .ref h), (1, .int 0), (0, .ref h)] dd_X9_others_0.2.2.2.2.2.2.1 (by decide) rfl rfl ?_
  refine xr_iconst (n := 8) (v := 0) C dd_X9_others_0.2.2.2.2.2.2.2.1 rfl rfl ?_
  refine xr_istore (n := 10) C [(4, .int 0), (3, .int (nI hn)), (2, .ref h), (1, .int 0), (0, .ref h)] dd_X9_others_0.2.2.2.2.2.2.2.2.1 (by decide) rfl rfl ?_
  refine xr_lv (lv' := [(1, .int 0), (2, .ref h), (3, .int (nI hn)), (4, .int 0)]) [3, 2, 1, 0] rfl ?_
  obtain ⟨b_1, hb_1, hR⟩ := yf_b hR
  have K_1 : X p l e (yR 2 0 0) s m args below meth c D A H0 10 Q [[(h, .inl (cy 3, hn, .inr (.inr (.inr (.inr (yad hd))))))], xg_rows hd hn (cy 1) hk hG] 0 0 [(1, .int b_1.1)] 76 [] := by
    refine xr_iload_n (n := 77) (j := 0) C dd_X9_others_2.2.2.2.2.2.2.2.2.2.2.2.1 rfl rfl ?_
    obtain rfl := Option.some.inj hR
    exact ret b_1.1 ⟨rfl, rfl⟩ (Nat.le_of_ble_eq_true rfl) (Nat.le_of_ble_eq_true rfl) dd_X9_others_2.2.2.2.2.2.2.2.2.2.2.2.2.1
  refine y_loop (P := fun (s_1 : Int32 × Int32) => X p l e (yR 2 0 0) s m args below meth c D A H0 10 Q [[(h, .inl (cy 3, hn, .inr (.inr (.inr (.inr (yad hd))))))], xg_rows hd hn (cy 1) hk hG] 0 0 [(1, .int s_1.1), (2, .ref h), (3, .int (nI hn)), (4, .int s_1.2)] 10 []) ?_ _ (0, 0) hb_1
  intro s_1 o_1 ho_1 hk_1 hx_1
  refine xr_iload (n := 12) (j := 3) C dd_X9_others_0.2.2.2.2.2.2.2.2.2.1 rfl rfl ?_
  refine xr_iload_n (n := 13) (j := 2) C dd_X9_others_0.2.2.2.2.2.2.2.2.2.2.1 rfl rfl ?_
  refine xr_icmp_ge (tgt := 76) (n := 16) C dd_X9_others_0.2.2.2.2.2.2.2.2.2.2.2.1 rfl rfl (fun c_2 => ?_) (fun c_2 => ?_)
  · replace ho_1 := yf_t c_2 ho_1
    refine xr_lv (lv' := [(1, .int s_1.1)]) [0] rfl ?_
    have e_3 := hx_1 _ (Option.some.inj ho_1).symm
    subst e_3
    exact K_1
  · replace ho_1 := yf_f c_2 ho_1
    refine xr_aload_n (n := 17) (j := 1) C dd_X9_others_0.2.2.2.2.2.2.2.2.2.2.2.2.1 rfl rfl ?_
    refine xr_iload (n := 19) (j := 3) C dd_X9_others_0.2.2.2.2.2.2.2.2.2.2.2.2.2.1 rfl rfl ?_
    obtain ⟨g_4, ho_1⟩ := yf_g ho_1
    refine xr_aald (n := 20) C 0 0 rfl 3 rfl rfl g_4 rfl dd_X9_others_0.2.2.2.2.2.2.2.2.2.2.2.2.2.2.1 rfl ?_
    refine xr_astore (n := 22) C [(5, .ref (hd s_1.2.toNatClampNeg)), (1, .int s_1.1), (2, .ref h), (3, .int (nI hn)), (4, .int s_1.2)] dd_X9_others_0.2.2.2.2.2.2.2.2.2.2.2.2.2.2.2.1 (by decide) rfl rfl ?_
    refine xr_aload (n := 24) (j := 0) C dd_X9_others_1.1 rfl rfl ?_
    refine xr_astore (n := 26) C [(6, .ref (hd s_1.2.toNatClampNeg)), (5, .ref (hd s_1.2.toNatClampNeg)), (1, .int s_1.1), (2, .ref h), (3, .int (nI hn)), (4, .int s_1.2)] dd_X9_others_1.2.1 (by decide) rfl rfl ?_
    refine xr_aload (n := 28) (j := 0) C dd_X9_others_1.2.2.1 rfl rfl ?_
    refine xr_aleng (n := 29) C 1 1 rfl s_1.2.toNatClampNeg (ylt g_4) rfl dd_X9_others_1.2.2.2.1 rfl ?_
    refine xr_istore (n := 31) C [(7, .int (nI hk)), (6, .ref (hd s_1.2.toNatClampNeg)), (5, .ref (hd s_1.2.toNatClampNeg)), (1, .int s_1.1), (2, .ref h), (3, .int (nI hn)), (4, .int s_1.2)] dd_X9_others_1.2.2.2.2.1 (by decide) rfl rfl ?_
    refine xr_iconst (n := 32) (v := 0) C dd_X9_others_1.2.2.2.2.2.1 rfl rfl ?_
    refine xr_istore (n := 34) C [(8, .int 0), (7, .int (nI hk)), (6, .ref (hd s_1.2.toNatClampNeg)), (5, .ref (hd s_1.2.toNatClampNeg)), (1, .int s_1.1), (2, .ref h), (3, .int (nI hn)), (4, .int s_1.2)] dd_X9_others_1.2.2.2.2.2.2.1 (by decide) rfl rfl ?_
    refine xr_lv (lv' := [(1, .int s_1.1), (2, .ref h), (3, .int (nI hn)), (4, .int s_1.2), (6, .ref (hd s_1.2.toNatClampNeg)), (7, .int (nI hk)), (8, .int 0)]) [4, 5, 6, 7, 2, 1, 0] rfl ?_
    obtain ⟨b_5, hb_5, ho_1⟩ := yf_b ho_1
    have K_5 : X p l e (yR 2 0 0) s m args below meth c D A H0 10 Q [[(h, .inl (cy 3, hn, .inr (.inr (.inr (.inr (yad hd))))))], xg_rows hd hn (cy 1) hk hG] 0 0 [(1, .int b_5.1), (2, .ref h), (3, .int (nI hn)), (4, .int s_1.2)] 70 [] := by
      refine xr_iinc (j := 3) (v := s_1.2 + 1) (n := 73) C [(4, .int (s_1.2 + 1)), (1, .int b_5.1), (2, .ref h), (3, .int (nI hn))] dd_X9_others_2.2.2.2.2.2.2.2.2.2.1 rfl rfl (by decide) rfl rfl ?_
      refine xr_goto (tgt := 10) C dd_X9_others_2.2.2.2.2.2.2.2.2.2.2.1 rfl ?_
      refine xr_lv (lv' := [(1, .int b_5.1), (2, .ref h), (3, .int (nI hn)), (4, .int (s_1.2 + 1))]) [1, 2, 3, 0] rfl ?_
      exact hk_1 (b_5.1, s_1.2 + 1) (Option.some.inj ho_1).symm
    refine y_loop (P := fun (s_5 : Int32 × Int32) => X p l e (yR 2 0 0) s m args below meth c D A H0 10 Q [[(h, .inl (cy 3, hn, .inr (.inr (.inr (.inr (yad hd))))))], xg_rows hd hn (cy 1) hk hG] 0 0 [(1, .int s_5.1), (2, .ref h), (3, .int (nI hn)), (4, .int s_1.2), (6, .ref (hd s_1.2.toNatClampNeg)), (7, .int (nI hk)), (8, .int s_5.2)] 34 []) ?_ _ (s_1.1, 0) hb_5
    intro s_5 o_5 ho_5 hk_5 hx_5
    refine xr_iload (n := 36) (j := 6) C dd_X9_others_1.2.2.2.2.2.2.2.1 rfl rfl ?_
    refine xr_iload (n := 38) (j := 5) C dd_X9_others_1.2.2.2.2.2.2.2.2.1 rfl rfl ?_
    refine xr_icmp_ge (tgt := 70) (n := 41) C dd_X9_others_1.2.2.2.2.2.2.2.2.2.1 rfl rfl (fun c_6 => ?_) (fun c_6 => ?_)
    · replace ho_5 := yf_t c_6 ho_5
      refine xr_lv (lv' := [(1, .int s_5.1), (2, .ref h), (3, .int (nI hn)), (4, .int s_1.2)]) [0, 1, 2, 3] rfl ?_
      have e_7 := hx_5 _ (Option.some.inj ho_5).symm
      subst e_7
      exact K_5
    · replace ho_5 := yf_f c_6 ho_5
      refine xr_aload (n := 43) (j := 4) C dd_X9_others_1.2.2.2.2.2.2.2.2.2.2.1 rfl rfl ?_
      refine xr_iload (n := 45) (j := 6) C dd_X9_others_1.2.2.2.2.2.2.2.2.2.2.2.1 rfl rfl ?_
      obtain ⟨g_8, ho_5⟩ := yf_g ho_5
      refine xr_ialdg (n := 46) C 1 rfl s_1.2.toNatClampNeg (ylt g_4) g_8 dd_X9_others_1.2.2.2.2.2.2.2.2.2.2.2.2.1 rfl ?_
      obtain ⟨y_9, ey_9, ho_5⟩ := yf_l ho_5
      refine xr_topI ey_9 ?_
      refine xr_istore (n := 48) C [(9, .int y_9), (1, .int s_5.1), (2, .ref h), (3, .int (nI hn)), (4, .int s_1.2), (6, .ref (hd s_1.2.toNatClampNeg)), (7, .int (nI hk)), (8, .int s_5.2)] dd_X9_others_1.2.2.2.2.2.2.2.2.2.2.2.2.2.1 (by decide) rfl rfl ?_
      refine xr_iload_n (n := 49) (j := 1) C dd_X9_others_1.2.2.2.2.2.2.2.2.2.2.2.2.2.2.1 rfl rfl ?_
      refine xr_iload (n := 51) (j := 0) C dd_X9_others_1.2.2.2.2.2.2.2.2.2.2.2.2.2.2.2.1 rfl rfl ?_
      obtain ⟨r_11, hE_11, ho_5⟩ := yf_b ho_5
      have J_11 : X p l e (yR 2 0 0) s m args below meth c D A H0 10 Q [[(h, .inl (cy 3, hn, .inr (.inr (.inr (.inr (yad hd))))))], xg_rows hd hn (cy 1) hk hG] 0 0 [(2, .ref h), (3, .int (nI hn)), (4, .int s_1.2), (6, .ref (hd s_1.2.toNatClampNeg)), (7, .int (nI hk)), (8, .int s_5.2)] 59 [.int r_11, .int s_5.1] := by
        obtain ⟨x_12, hx_12, ho_5⟩ := yf_b ho_5
        refine xr_callSp (n := 62) (As := [.int r_11]) (rest := [.int s_5.1]) C (kX9_one l D cy (i1 := r_11) hx_12) mX9_one u_1312 u_1313 2 [] [0, 1] rfl (by decide +kernel) rfl rfl rfl rfl (Nat.le_of_ble_eq_true rfl) (Nat.le_of_ble_eq_true rfl) (Nat.le_of_ble_eq_true rfl) (Nat.le_of_ble_eq_true rfl) (Nat.le_of_ble_eq_true rfl) dd_X9_others_2.2.2.2.2.1 rfl (fun _ _ hp => hp.2) (fun v_13 hp_15 => ?_)
        obtain ⟨rfl, -⟩ := hp_15
        refine xr_st (st' := [.int x_12, .int s_5.1]) rfl ?_
        refine xr_iadd (n := 63) C dd_X9_others_2.2.2.2.2.2.1 rfl ?_
        refine xr_istore_n (n := 64) C [(1, .int (s_5.1 + x_12)), (2, .ref h), (3, .int (nI hn)), (4, .int s_1.2), (6, .ref (hd s_1.2.toNatClampNeg)), (7, .int (nI hk)), (8, .int s_5.2)] dd_X9_others_2.2.2.2.2.2.2.1 (by decide) rfl rfl ?_
        refine xr_iinc (j := 6) (v := s_5.2 + 1) (n := 67) C [(8, .int (s_5.2 + 1)), (1, .int (s_5.1 + x_12)), (2, .ref h), (3, .int (nI hn)), (4, .int s_1.2), (6, .ref (hd s_1.2.toNatClampNeg)), (7, .int (nI hk))] dd_X9_others_2.2.2.2.2.2.2.2.1 rfl rfl (by decide) rfl rfl ?_
        refine xr_goto (tgt := 34) C dd_X9_others_2.2.2.2.2.2.2.2.2.1 rfl ?_
        refine xr_lv (lv' := [(1, .int (s_5.1 + x_12)), (2, .ref h), (3, .int (nI hn)), (4, .int s_1.2), (6, .ref (hd s_1.2.toNatClampNeg)), (7, .int (nI hk)), (8, .int (s_5.2 + 1))]) [1, 2, 3, 4, 5, 6, 0] rfl ?_
        exact hk_5 (s_5.1 + x_12, s_5.2 + 1) (Option.some.inj ho_5).symm
      refine xr_if_eq (tgt := 58) (n := 54) C dd_X9_others_2.1 rfl rfl (fun c_16 => ?_) (fun c_16 => ?_)
      · replace hE_11 := yf_t c_16 hE_11
        refine xr_iconst (n := 59) (v := 0) C dd_X9_others_2.2.2.2.1 rfl rfl ?_
        refine xr_lv (lv' := [(2, .ref h), (3, .int (nI hn)), (4, .int s_1.2), (6, .ref (hd s_1.2.toNatClampNeg)), (7, .int (nI hk)), (8, .int s_5.2)]) [2, 3, 4, 5, 6, 7] rfl ?_
        have e_17 := Option.some.inj hE_11
        subst e_17
        exact J_11
      · replace hE_11 := yf_f c_16 hE_11
        refine xr_iconst (n := 55) (v := 1) C dd_X9_others_2.2.1 rfl rfl ?_
        refine xr_goto (tgt := 59) C dd_X9_others_2.2.2.1 rfl ?_
        refine xr_lv (lv' := [(2, .ref h), (3, .int (nI hn)), (4, .int s_1.2), (6, .ref (hd s_1.2.toNatClampNeg)), (7, .int (nI hk)), (8, .int s_5.2)]) [2, 3, 4, 5, 6, 7] rfl ?_
        have e_18 := Option.some.inj hE_11
        subst e_18
        exact J_11
theorem dd_X9_left_0 : dk_R cX9_left [(0, .aload_n 0, 1), (1, .iload_n 1, 1), (2, .iconst 0, 1), (3, .aload_n 0, 1), (4, .getfield 16, 3), (7, .getfield 48, 3), (10, .iconst 1, 1), (11, .isub, 1), (12, .invokestatic 75, 3), (15, .ifCond .eq 20, 3), (18, .iload_n 2, 1), (19, .iconst 0, 1), (20, .aload_n 0, 1), (21, .getfield 16, 3), (24, .getfield 52, 3), (27, .iconst 1, 1)] := dk_use _ _ (by decide +kernel)
theorem dd_X9_left_1 : dk_R cX9_left [(28, .isub, 1), (29, .invokestatic 75, 3), (32, .ifCond .ne 7, 3), (35, .iconst 1, 1), (36, .goto 4, 3), (39, .iconst 0, 1), (40, .iconst 1, 1), (41, .invokevirtual 79, 3), (44, .ifCond .ne 27, 3), (47, .aload_n 0, 1), (48, .iload_n 3, 1), (49, .bipush (-9), 2), (51, .bipush 9, 2), (53, .invokestatic 75, 3), (56, .ifCond .ne 7, 3), (59, .iconst 1, 1)] := dk_use _ _ (by decide +kernel)
theorem dd_X9_left_2 : dk_R cX9_left [(60, .goto 4, 3), (63, .iconst 0, 1), (64, .iconst 2, 1), (65, .invokevirtual 67, 3), (68, .ifCond .eq 5, 3), (71, .iconst 0, 1), (72, .ireturn, 1), (73, .aload_n 0, 1), (74, .getfield 16, 3), (77, .getfield 58, 3), (80, .iload_n 1, 1), (81, .aaload, 1), (82, .iload_n 2, 1), (83, .iaload, 1), (84, .istore 4, 2), (86, .aload_n 0, 1)] := dk_use _ _ (by decide +kernel)
theorem dd_X9_left_3 : dk_R cX9_left [(87, .getfield 16, 3), (90, .getfield 58, 3), (93, .iload_n 1, 1), (94, .aaload, 1), (95, .iload_n 2, 1), (96, .iload_n 3, 1), (97, .iastore, 1), (98, .iload 4, 2), (100, .ireturn, 1)] := dk_use _ _ (by decide +kernel)
def fX9_left_i (gwr : Int32) (gwk : Int32) (gwan : Nat) (gwak : Nat) (gwaG : Nat → Nat → Int32) (i1 : Int32) (i2 : Int32) (i3 : Int32) : Option (Int32 × Int32 × (Nat → Nat → Int32)) := ((fX9_isIn i1 0 (gwr - 1)).bind fun x_1 => ((((if x_1 = 0 then some 1 else ((fX9_isIn i2 0 (gwk - 1)).bind fun x_37 => (if x_37 = 0 then some 1 else some 0))) : Option (Int32))).bind fun r_11 => ((fX9_start_i r_11 1).bind fun x_12 => (if x_12.1 = 0 then ((fX9_isIn i3 (-9) 9).bind fun x_17 => ((((if x_17 = 0 then some 1 else some 0) : Option (Int32))).bind fun r_22 => ((fX9_refuse_i x_12.2 r_22 2).bind fun x_23 => (if x_23.1 = 0 then (if ¬ (i1 < 0 ∨ gwan ≤ i1.toNatClampNeg) then (if ¬ (i2 < 0 ∨ gwak ≤ i2.toNatClampNeg) then (if ¬ (i1 < 0 ∨ gwan ≤ i1.toNatClampNeg) then (if ¬ (i2 < 0 ∨ gwak ≤ i2.toNatClampNeg) then some (gwaG i1.toNatClampNeg i2.toNatClampNeg, x_23.2, upg gwaG i1.toNatClampNeg i2.toNatClampNeg i3) else none) else none) else none) else none) else some (0, x_23.2, gwaG))))) else some (0, x_12.2, gwaG)))))
abbrev hX9_left : Cond := .code yX9_left cX9_left 5 (some .int)
theorem mX9_left : yM yX9_left hX9_left 3 := ⟨u_1318, u_64, by decide +kernel, by decide +kernel, by decide +kernel⟩
set_option maxHeartbeats 4000000 in
set_option maxRecDepth 100000 in
theorem kX9_left_i (l : Launch) (D : va_G) (cy : Nat → ClassId) (g : Nat) (gth : Int32) (gw : Nat) (gB : Nat) (gK : Nat) (gU : Nat) (gS : Nat) (gbe : Int32) (gwo : Int32) (gta : Int64) (glr : Int32) (glc : Int32) (gti : Int32) (ggo : Int32) (gR : Nat) (gch : Int32) (gD : Nat) (gwr : Int32) (gwk : Int32) (gwc : Int32) (gwg : Int32) (gws : Int32) (gwa : Nat) (gwb : Nat) (gwad : Nat → Nat) (gwan : Nat) (gwak : Nat) (gwaG : Nat → Nat → Int32) (i1 : Int32) (i2 : Int32) (i3 : Int32) {res : Int32 × Int32 × (Nat → Nat → Int32)} (hR : fX9_left_i gwr gwk gwan gwak gwaG i1 i2 i3 = some res) : YM l D cy yX9_left hX9_left 3 0 0 [.ref g, .int i1, .int i2, .int i3] [[(g, .inr (11, [.int gth, .ref gw, .ref gB, .ref gK, .ref gU, .ref gS, .int gbe, .int gwo, .long gta, .null, .int glr, .int glc, .int gti, .int ggo, .ref gR, .int gch, .ref gD]))], [(gw, .inr (10, [.int gwr, .int gwk, .int gwc, .int gwg, .int gws, .ref gwa, .ref gwb]))], [(gwa, .inl (cy 3, gwan, .inr (.inr (.inr (.inr (yad gwad))))))], xg_rows gwad gwan (cy 1) gwak gwaG] (fun v u => v = some (.int res.1) ∧ u = [[(g, .inr (11, [.int res.2.1, .ref gw, .ref gB, .ref gK, .ref gU, .ref gS, .int gbe, .int gwo, .long gta, .null, .int glr, .int glc, .int gti, .int ggo, .ref gR, .int gch, .ref gD]))], [(gw, .inr (10, [.int gwr, .int gwk, .int gwc, .int gwg, .int gws, .ref gwa, .ref gwb]))], [(gwa, .inl (cy 3, gwan, .inr (.inr (.inr (.inr (yad gwad))))))], xg_rows gwad gwan (cy 1) gwak res.2.2]) := by
  unfold fX9_left_i at hR
  refine YM.ofI (cc := cX9_left) (maxL := 5) (ret := (some .int)) (by decide +kernel) rfl (Nat.le_of_ble_eq_true rfl) [(0, .ref g), (1, .int i1), (2, .int i2), (3, .int i3)] rfl rfl (fun p e s m args below meth c A H0 Q C hnm ret => ?_)
  refine xr_aload_n (n := 1) (j := 0) C dd_X9_left_0.1 rfl rfl ?_
  refine xr_iload_n (n := 2) (j := 1) C dd_X9_left_0.2.1 rfl rfl ?_
  refine xr_iconst (n := 3) (v := 0) C dd_X9_left_0.2.2.1 rfl rfl ?_
  refine xr_aload_n (n := 4) (j := 0) C dd_X9_left_0.2.2.2.1 rfl rfl ?_
  refine xr_get (n := 7) C 0 rfl rfl 1 (by decide) in_X9 u_1238 rfl (v := .ref gw) rfl dd_X9_left_0.2.2.2.2.1 rfl ?_
  refine xr_get (n := 10) C 1 rfl rfl 0 (by decide) in_X8 u_1201 rfl (v := .int gwr) rfl dd_X9_left_0.2.2.2.2.2.1 rfl ?_
  refine xr_iconst (n := 11) (v := 1) C dd_X9_left_0.2.2.2.2.2.2.1 rfl rfl ?_
  refine xr_isub (n := 12) C dd_X9_left_0.2.2.2.2.2.2.2.1 rfl ?_
  obtain ⟨x_1, hx_1, hR⟩ := yf_b hR
  refine xr_callSp (n := 15) (As := [.int i1, .int 0, .int (gwr - 1)]) (rest := [.ref g]) C (kX9_isIn l D cy (i1 := i1) (i2 := 0) (i3 := gwr - 1) hx_1) mX9_isIn u_1298 u_1299 4 [] [0, 1, 2, 3] rfl (by decide +kernel) rfl rfl rfl rfl (Nat.le_of_ble_eq_true rfl) (Nat.le_of_ble_eq_true rfl) (Nat.le_of_ble_eq_true rfl) (Nat.le_of_ble_eq_true rfl) (Nat.le_of_ble_eq_true rfl) dd_X9_left_0.2.2.2.2.2.2.2.2.1 rfl (fun _ _ hp => hp.2) (fun v_2 hp_4 => ?_)
  obtain ⟨rfl, -⟩ := hp_4
  refine xr_st (st' := [.int x_1, .ref g]) rfl ?_
  obtain ⟨r_11, hE_11, hR⟩ := yf_b hR
  have J_11 : X p l e (yR 3 0 0) s m args below meth c D A H0 5 Q [[(g, .inr (11, [.int gth, .ref gw, .ref gB, .ref gK, .ref gU, .ref gS, .int gbe, .int gwo, .long gta, .null, .int glr, .int glc, .int gti, .int ggo, .ref gR, .int gch, .ref gD]))], [(gw, .inr (10, [.int gwr, .int gwk, .int gwc, .int gwg, .int gws, .ref gwa, .ref gwb]))], [(gwa, .inl (cy 3, gwan, .inr (.inr (.inr (.inr (yad gwad))))))], xg_rows gwad gwan (cy 1) gwak gwaG] 0 0 [(0, .ref g), (1, .int i1), (2, .int i2), (3, .int i3)] 40 [.int r_11, .ref g] := by
    refine xr_iconst (n := 41) (v := 1) C dd_X9_left_1.2.2.2.2.2.2.1 rfl rfl ?_
    obtain ⟨x_12, hx_12, hR⟩ := yf_b hR
    refine xr_callV (n := 44) (As := [.int r_11, .int 1]) (rest := []) C (kX9_start_i l D cy (g := g) (gth := gth) (gw := gw) (gB := gB) (gK := gK) (gU := gU) (gS := gS) (gbe := gbe) (gwo := gwo) (gta := gta) (glr := glr) (glc := glc) (gti := gti) (ggo := ggo) (gR := gR) (gch := gch) (gD := gD) (i1 := r_11) (i2 := 1) hx_12) mX9_start u_1301 u_1303 u_29 0 rfl rfl 4 [0] [1, 2, 3] rfl (by decide +kernel) rfl rfl rfl rfl (Nat.le_of_ble_eq_true rfl) (Nat.le_of_ble_eq_true rfl) (Nat.le_of_ble_eq_true rfl) (Nat.le_of_ble_eq_true rfl) (Nat.le_of_ble_eq_true rfl) dd_X9_left_1.2.2.2.2.2.2.2.1 rfl (fun v_13 u_14 hp_15 => ?_)
    obtain ⟨rfl, rfl⟩ := hp_15
    refine xr_perm C 4 [0, 1, 2, 3] [] [[(g, .inr (11, [.int x_12.2, .ref gw, .ref gB, .ref gK, .ref gU, .ref gS, .int gbe, .int gwo, .long gta, .null, .int glr, .int glc, .int gti, .int ggo, .ref gR, .int gch, .ref gD]))], [(gw, .inr (10, [.int gwr, .int gwk, .int gwc, .int gwg, .int gws, .ref gwa, .ref gwb]))], [(gwa, .inl (cy 3, gwan, .inr (.inr (.inr (.inr (yad gwad))))))], xg_rows gwad gwan (cy 1) gwak gwaG] rfl (by decide +kernel) rfl ?_
    refine xr_st (st' := [.int x_12.1]) rfl ?_
    refine xr_if_ne (tgt := 71) (n := 47) C dd_X9_left_1.2.2.2.2.2.2.2.2.1 rfl rfl (fun c_16 => ?_) (fun c_16 => ?_)
    · replace hR := yf_f c_16 hR
      refine xr_iconst (n := 72) (v := 0) C dd_X9_left_2.2.2.2.2.2.1 rfl rfl ?_
      obtain rfl := Option.some.inj hR
      exact ret 0 ⟨rfl, rfl⟩ (Nat.le_of_ble_eq_true rfl) (Nat.le_of_ble_eq_true rfl) dd_X9_left_2.2.2.2.2.2.2.1
    · replace hR := yf_t c_16 hR
      refine xr_aload_n (n := 48) (j := 0) C dd_X9_left_1.2.2.2.2.2.2.2.2.2.1 rfl rfl ?_
      refine xr_iload_n (n := 49) (j := 3) C dd_X9_left_1.2.2.2.2.2.2.2.2.2.2.1 rfl rfl ?_
      refine xr_bipush (n := 51) (v := -9) C dd_X9_left_1.2.2.2.2.2.2.2.2.2.2.2.1 rfl rfl ?_
      refine xr_bipush (n := 53) (v := 9) C dd_X9_left_1.2.2.2.2.2.2.2.2.2.2.2.2.1 rfl rfl ?_
      obtain ⟨x_17, hx_17, hR⟩ := yf_b hR
      refine xr_callSp (n := 56) (As := [.int i3, .int (-9), .int 9]) (rest := [.ref g]) C (kX9_isIn l D cy (i1 := i3) (i2 := -9) (i3 := 9) hx_17) mX9_isIn u_1298 u_1299 4 [] [0, 1, 2, 3] rfl (by decide +kernel) rfl rfl rfl rfl (Nat.le_of_ble_eq_true rfl) (Nat.le_of_ble_eq_true rfl) (Nat.le_of_ble_eq_true rfl) (Nat.le_of_ble_eq_true rfl) (Nat.le_of_ble_eq_true rfl) dd_X9_left_1.2.2.2.2.2.2.2.2.2.2.2.2.2.1 rfl (fun _ _ hp => hp.2) (fun v_18 hp_20 => ?_)
      obtain ⟨rfl, -⟩ := hp_20
      refine xr_st (st' := [.int x_17, .ref g]) rfl ?_
      obtain ⟨r_22, hE_22, hR⟩ := yf_b hR
      have J_22 : X p l e (yR 3 0 0) s m args below meth c D A H0 5 Q [[(g, .inr (11, [.int x_12.2, .ref gw, .ref gB, .ref gK, .ref gU, .ref gS, .int gbe, .int gwo, .long gta, .null, .int glr, .int glc, .int gti, .int ggo, .ref gR, .int gch, .ref gD]))], [(gw, .inr (10, [.int gwr, .int gwk, .int gwc, .int gwg, .int gws, .ref gwa, .ref gwb]))], [(gwa, .inl (cy 3, gwan, .inr (.inr (.inr (.inr (yad gwad))))))], xg_rows gwad gwan (cy 1) gwak gwaG] 0 0 [(0, .ref g), (1, .int i1), (2, .int i2), (3, .int i3)] 64 [.int r_22, .ref g] := by
        refine xr_iconst (n := 65) (v := 2) C dd_X9_left_2.2.2.1 rfl rfl ?_
        obtain ⟨x_23, hx_23, hR⟩ := yf_b hR
        refine xr_callV (n := 68) (As := [.int r_22, .int 2]) (rest := []) C (kX9_refuse_i l D cy (g := g) (gth := x_12.2) (gw := gw) (gB := gB) (gK := gK) (gU := gU) (gS := gS) (gbe := gbe) (gwo := gwo) (gta := gta) (glr := glr) (glc := glc) (gti := gti) (ggo := ggo) (gR := gR) (gch := gch) (gD := gD) (i1 := r_22) (i2 := 2) hx_23) mX9_refuse u_1305 u_1307 u_30 0 rfl rfl 4 [0] [1, 2, 3] rfl (by decide +kernel) rfl rfl rfl rfl (Nat.le_of_ble_eq_true rfl) (Nat.le_of_ble_eq_true rfl) (Nat.le_of_ble_eq_true rfl) (Nat.le_of_ble_eq_true rfl) (Nat.le_of_ble_eq_true rfl) dd_X9_left_2.2.2.2.1 rfl (fun v_24 u_25 hp_26 => ?_)
        obtain ⟨rfl, rfl⟩ := hp_26
        refine xr_perm C 4 [0, 1, 2, 3] [] [[(g, .inr (11, [.int x_23.2, .ref gw, .ref gB, .ref gK, .ref gU, .ref gS, .int gbe, .int gwo, .long gta, .null, .int glr, .int glc, .int gti, .int ggo, .ref gR, .int gch, .ref gD]))], [(gw, .inr (10, [.int gwr, .int gwk, .int gwc, .int gwg, .int gws, .ref gwa, .ref gwb]))], [(gwa, .inl (cy 3, gwan, .inr (.inr (.inr (.inr (yad gwad))))))], xg_rows gwad gwan (cy 1) gwak gwaG] rfl (by decide +kernel) rfl ?_
        refine xr_st (st' := [.int x_23.1]) rfl ?_
        refine xr_if_eq (tgt := 73) (n := 71) C dd_X9_left_2.2.2.2.2.1 rfl rfl (fun c_27 => ?_) (fun c_27 => ?_)
        · replace hR := yf_t c_27 hR
          refine xr_aload_n (n := 74) (j := 0) C dd_X9_left_2.2.2.2.2.2.2.2.1 rfl rfl ?_
          refine xr_get (n := 77) C 0 rfl rfl 1 (by decide) in_X9 u_1238 rfl (v := .ref gw) rfl dd_X9_left_2.2.2.2.2.2.2.2.2.1 rfl ?_
          refine xr_get (n := 80) C 1 rfl rfl 5 (by decide) in_X8 u_1211 rfl (v := .ref gwa) rfl dd_X9_left_2.2.2.2.2.2.2.2.2.2.1 rfl ?_
          refine xr_iload_n (n := 81) (j := 1) C dd_X9_left_2.2.2.2.2.2.2.2.2.2.2.1 rfl rfl ?_
          obtain ⟨g_28, hR⟩ := yf_g hR
          refine xr_aald (n := 82) C 2 0 rfl 3 rfl rfl g_28 rfl dd_X9_left_2.2.2.2.2.2.2.2.2.2.2.2.1 rfl ?_
          refine xr_iload_n (n := 83) (j := 2) C dd_X9_left_2.2.2.2.2.2.2.2.2.2.2.2.2.1 rfl rfl ?_
          obtain ⟨g_29, hR⟩ := yf_g hR
          refine xr_ialdg (n := 84) C 3 rfl i1.toNatClampNeg (ylt g_28) g_29 dd_X9_left_2.2.2.2.2.2.2.2.2.2.2.2.2.2.1 rfl ?_
          refine xr_istore (n := 86) C [(4, .int (gwaG i1.toNatClampNeg i2.toNatClampNeg)), (0, .ref g), (1, .int i1), (2, .int i2), (3, .int i3)] dd_X9_left_2.2.2.2.2.2.2.2.2.2.2.2.2.2.2.1 (by decide) rfl rfl ?_
          refine xr_aload_n (n := 87) (j := 1) C dd_X9_left_2.2.2.2.2.2.2.2.2.2.2.2.2.2.2.2.1 rfl rfl ?_
          refine xr_get (n := 90) C 0 rfl rfl 1 (by decide) in_X9 u_1238 rfl (v := .ref gw) rfl dd_X9_left_3.1 rfl ?_
          refine xr_get (n := 93) C 1 rfl rfl 5 (by decide) in_X8 u_1211 rfl (v := .ref gwa) rfl dd_X9_left_3.2.1 rfl ?_
          refine xr_iload_n (n := 94) (j := 2) C dd_X9_left_3.2.2.1 rfl rfl ?_
          obtain ⟨g_30, hR⟩ := yf_g hR
          refine xr_aald (n := 95) C 2 0 rfl 3 rfl rfl g_30 rfl dd_X9_left_3.2.2.2.1 rfl ?_
          refine xr_iload_n (n := 96) (j := 3) C dd_X9_left_3.2.2.2.2.1 rfl rfl ?_
          refine xr_iload_n (n := 97) (j := 4) C dd_X9_left_3.2.2.2.2.2.1 rfl rfl ?_
          obtain ⟨g_31, hR⟩ := yf_g hR
          refine xr_iastg (n := 98) C 3 rfl i1.toNatClampNeg (ylt g_30) g_31 [[(g, .inr (11, [.int x_23.2, .ref gw, .ref gB, .ref gK, .ref gU, .ref gS, .int gbe, .int gwo, .long gta, .null, .int glr, .int glc, .int gti, .int ggo, .ref gR, .int gch, .ref gD]))], [(gw, .inr (10, [.int gwr, .int gwk, .int gwc, .int gwg, .int gws, .ref gwa, .ref gwb]))], [(gwa, .inl (cy 3, gwan, .inr (.inr (.inr (.inr (yad gwad))))))], xg_rows gwad gwan (cy 1) gwak (upg gwaG i1.toNatClampNeg i2.toNatClampNeg i3)] rfl dd_X9_left_3.2.2.2.2.2.2.1 rfl ?_
          refine xr_iload (n := 100) (j := 0) C dd_X9_left_3.2.2.2.2.2.2.2.1 rfl rfl ?_
          obtain rfl := Option.some.inj hR
          exact ret (gwaG i1.toNatClampNeg i2.toNatClampNeg) ⟨rfl, rfl⟩ (Nat.le_of_ble_eq_true rfl) (Nat.le_of_ble_eq_true rfl) dd_X9_left_3.2.2.2.2.2.2.2.2.1
        · replace hR := yf_f c_27 hR
          refine xr_iconst (n := 72) (v := 0) C dd_X9_left_2.2.2.2.2.2.1 rfl rfl ?_
          obtain rfl := Option.some.inj hR
          exact ret 0 ⟨rfl, rfl⟩ (Nat.le_of_ble_eq_true rfl) (Nat.le_of_ble_eq_true rfl) dd_X9_left_2.2.2.2.2.2.2.1
      refine xr_if_ne (tgt := 63) (n := 59) C dd_X9_left_1.2.2.2.2.2.2.2.2.2.2.2.2.2.2.1 rfl rfl (fun c_32 => ?_) (fun c_32 => ?_)
      · replace hE_22 := yf_f c_32 hE_22
        refine xr_iconst (n := 64) (v := 0) C dd_X9_left_2.2.1 rfl rfl ?_
        have e_33 := Option.some.inj hE_22
        subst e_33
        exact J_22
      · replace hE_22 := yf_t c_32 hE_22
        refine xr_iconst (n := 60) (v := 1) C dd_X9_left_1.2.2.2.2.2.2.2.2.2.2.2.2.2.2.2.1 rfl rfl ?_
        refine xr_goto (tgt := 64) C dd_X9_left_2.1 rfl ?_
        have e_34 := Option.some.inj hE_22
        subst e_34
        exact J_22
  refine xr_if_eq (tgt := 35) (n := 18) C dd_X9_left_0.2.2.2.2.2.2.2.2.2.1 rfl rfl (fun c_35 => ?_) (fun c_35 => ?_)
  · replace hE_11 := yf_t c_35 hE_11
    refine xr_iconst (n := 36) (v := 1) C dd_X9_left_1.2.2.2.1 rfl rfl ?_
    refine xr_goto (tgt := 40) C dd_X9_left_1.2.2.2.2.1 rfl ?_
    have e_36 := Option.some.inj hE_11
    subst e_36
    exact J_11
  · replace hE_11 := yf_f c_35 hE_11
    refine xr_iload_n (n := 19) (j := 2) C dd_X9_left_0.2.2.2.2.2.2.2.2.2.2.1 rfl rfl ?_
    refine xr_iconst (n := 20) (v := 0) C dd_X9_left_0.2.2.2.2.2.2.2.2.2.2.2.1 rfl rfl ?_
    refine xr_aload_n (n := 21) (j := 0) C dd_X9_left_0.2.2.2.2.2.2.2.2.2.2.2.2.1 rfl rfl ?_
    refine xr_get (n := 24) C 0 rfl rfl 1 (by decide) in_X9 u_1238 rfl (v := .ref gw) rfl dd_X9_left_0.2.2.2.2.2.2.2.2.2.2.2.2.2.1 rfl ?_
    refine xr_get (n := 27) C 1 rfl rfl 1 (by decide) in_X8 u_1202 rfl (v := .int gwk) rfl dd_X9_left_0.2.2.2.2.2.2.2.2.2.2.2.2.2.2.1 rfl ?_
    refine xr_iconst (n := 28) (v := 1) C dd_X9_left_0.2.2.2.2.2.2.2.2.2.2.2.2.2.2.2.1 rfl rfl ?_
    refine xr_isub (n := 29) C dd_X9_left_1.1 rfl ?_
    obtain ⟨x_37, hx_37, hE_11⟩ := yf_b hE_11
    refine xr_callSp (n := 32) (As := [.int i2, .int 0, .int (gwk - 1)]) (rest := [.ref g]) C (kX9_isIn l D cy (i1 := i2) (i2 := 0) (i3 := gwk - 1) hx_37) mX9_isIn u_1298 u_1299 4 [] [0, 1, 2, 3] rfl (by decide +kernel) rfl rfl rfl rfl (Nat.le_of_ble_eq_true rfl) (Nat.le_of_ble_eq_true rfl) (Nat.le_of_ble_eq_true rfl) (Nat.le_of_ble_eq_true rfl) (Nat.le_of_ble_eq_true rfl) dd_X9_left_1.2.1 rfl (fun _ _ hp => hp.2) (fun v_38 hp_40 => ?_)
    obtain ⟨rfl, -⟩ := hp_40
    refine xr_st (st' := [.int x_37, .ref g]) rfl ?_
    refine xr_if_ne (tgt := 39) (n := 35) C dd_X9_left_1.2.2.1 rfl rfl (fun c_41 => ?_) (fun c_41 => ?_)
    · replace hE_11 := yf_f c_41 hE_11
      refine xr_iconst (n := 40) (v := 0) C dd_X9_left_1.2.2.2.2.2.1 rfl rfl ?_
      have e_42 := Option.some.inj hE_11
      subst e_42
      exact J_11
    · replace hE_11 := yf_t c_41 hE_11
      refine xr_iconst (n := 36) (v := 1) C dd_X9_left_1.2.2.2.1 rfl rfl ?_
      refine xr_goto (tgt := 40) C dd_X9_left_1.2.2.2.2.1 rfl ?_
      have e_43 := Option.some.inj hE_11
      subst e_43
      exact J_11
def fX9_left_r (gwr : Int32) (gwk : Int32) (gwan : Nat) (gwak : Nat) (gwaG : Nat → Nat → Int32) (i1 : Int32) (i2 : Int32) (i3 : Int32) : Option (Int32 × Int32 × (Nat → Nat → Int32)) := ((fX9_isIn i1 0 (gwr - 1)).bind fun x_1 => ((((if x_1 = 0 then some 1 else ((fX9_isIn i2 0 (gwk - 1)).bind fun x_37 => (if x_37 = 0 then some 1 else some 0))) : Option (Int32))).bind fun r_11 => ((fX9_start_r r_11 1).bind fun x_12 => (if x_12.1 = 0 then ((fX9_isIn i3 (-9) 9).bind fun x_17 => ((((if x_17 = 0 then some 1 else some 0) : Option (Int32))).bind fun r_22 => ((fX9_refuse_r x_12.2 r_22 2).bind fun x_23 => (if x_23.1 = 0 then (if ¬ (i1 < 0 ∨ gwan ≤ i1.toNatClampNeg) then (if ¬ (i2 < 0 ∨ gwak ≤ i2.toNatClampNeg) then (if ¬ (i1 < 0 ∨ gwan ≤ i1.toNatClampNeg) then (if ¬ (i2 < 0 ∨ gwak ≤ i2.toNatClampNeg) then some (gwaG i1.toNatClampNeg i2.toNatClampNeg, x_23.2, upg gwaG i1.toNatClampNeg i2.toNatClampNeg i3) else none) else none) else none) else none) else some (0, x_23.2, gwaG))))) else some (0, x_12.2, gwaG)))))
set_option maxHeartbeats 4000000 in
set_option maxRecDepth 100000 in
theorem kX9_left_r (l : Launch) (D : va_G) (cy : Nat → ClassId) (g : Nat) (gth : Int32) (gw : Nat) (gB : Nat) (gK : Nat) (gU : Nat) (gS : Nat) (gbe : Int32) (gwo : Int32) (gta : Int64) (gn : Nat) (glr : Int32) (glc : Int32) (gti : Int32) (ggo : Int32) (gR : Nat) (gch : Int32) (gD : Nat) (gwr : Int32) (gwk : Int32) (gwc : Int32) (gwg : Int32) (gws : Int32) (gwa : Nat) (gwb : Nat) (gwad : Nat → Nat) (gwan : Nat) (gwak : Nat) (gwaG : Nat → Nat → Int32) (i1 : Int32) (i2 : Int32) (i3 : Int32) {res : Int32 × Int32 × (Nat → Nat → Int32)} (hR : fX9_left_r gwr gwk gwan gwak gwaG i1 i2 i3 = some res) : YM l D cy yX9_left hX9_left 3 0 0 [.ref g, .int i1, .int i2, .int i3] [[(g, .inr (11, [.int gth, .ref gw, .ref gB, .ref gK, .ref gU, .ref gS, .int gbe, .int gwo, .long gta, .ref gn, .int glr, .int glc, .int gti, .int ggo, .ref gR, .int gch, .ref gD]))], [(gw, .inr (10, [.int gwr, .int gwk, .int gwc, .int gwg, .int gws, .ref gwa, .ref gwb]))], [(gwa, .inl (cy 3, gwan, .inr (.inr (.inr (.inr (yad gwad))))))], xg_rows gwad gwan (cy 1) gwak gwaG] (fun v u => v = some (.int res.1) ∧ u = [[(g, .inr (11, [.int res.2.1, .ref gw, .ref gB, .ref gK, .ref gU, .ref gS, .int gbe, .int gwo, .long gta, .ref gn, .int glr, .int glc, .int gti, .int ggo, .ref gR, .int gch, .ref gD]))], [(gw, .inr (10, [.int gwr, .int gwk, .int gwc, .int gwg, .int gws, .ref gwa, .ref gwb]))], [(gwa, .inl (cy 3, gwan, .inr (.inr (.inr (.inr (yad gwad))))))], xg_rows gwad gwan (cy 1) gwak res.2.2]) := by
  unfold fX9_left_r at hR
  refine YM.ofI (cc := cX9_left) (maxL := 5) (ret := (some .int)) (by decide +kernel) rfl (Nat.le_of_ble_eq_true rfl) [(0, .ref g), (1, .int i1), (2, .int i2), (3, .int i3)] rfl rfl (fun p e s m args below meth c A H0 Q C hnm ret => ?_)
  refine xr_aload_n (n := 1) (j := 0) C dd_X9_left_0.1 rfl rfl ?_
  refine xr_iload_n (n := 2) (j := 1) C dd_X9_left_0.2.1 rfl rfl ?_
  refine xr_iconst (n := 3) (v := 0) C dd_X9_left_0.2.2.1 rfl rfl ?_
  refine xr_aload_n (n := 4) (j := 0) C dd_X9_left_0.2.2.2.1 rfl rfl ?_
  refine xr_get (n := 7) C 0 rfl rfl 1 (by decide) in_X9 u_1238 rfl (v := .ref gw) rfl dd_X9_left_0.2.2.2.2.1 rfl ?_
  refine xr_get (n := 10) C 1 rfl rfl 0 (by decide) in_X8 u_1201 rfl (v := .int gwr) rfl dd_X9_left_0.2.2.2.2.2.1 rfl ?_
  refine xr_iconst (n := 11) (v := 1) C dd_X9_left_0.2.2.2.2.2.2.1 rfl rfl ?_
  refine xr_isub (n := 12) C dd_X9_left_0.2.2.2.2.2.2.2.1 rfl ?_
  obtain ⟨x_1, hx_1, hR⟩ := yf_b hR
  refine xr_callSp (n := 15) (As := [.int i1, .int 0, .int (gwr - 1)]) (rest := [.ref g]) C (kX9_isIn l D cy (i1 := i1) (i2 := 0) (i3 := gwr - 1) hx_1) mX9_isIn u_1298 u_1299 4 [] [0, 1, 2, 3] rfl (by decide +kernel) rfl rfl rfl rfl (Nat.le_of_ble_eq_true rfl) (Nat.le_of_ble_eq_true rfl) (Nat.le_of_ble_eq_true rfl) (Nat.le_of_ble_eq_true rfl) (Nat.le_of_ble_eq_true rfl) dd_X9_left_0.2.2.2.2.2.2.2.2.1 rfl (fun _ _ hp => hp.2) (fun v_2 hp_4 => ?_)
  obtain ⟨rfl, -⟩ := hp_4
  refine xr_st (st' := [.int x_1, .ref g]) rfl ?_
  obtain ⟨r_11, hE_11, hR⟩ := yf_b hR
  have J_11 : X p l e (yR 3 0 0) s m args below meth c D A H0 5 Q [[(g, .inr (11, [.int gth, .ref gw, .ref gB, .ref gK, .ref gU, .ref gS, .int gbe, .int gwo, .long gta, .ref gn, .int glr, .int glc, .int gti, .int ggo, .ref gR, .int gch, .ref gD]))], [(gw, .inr (10, [.int gwr, .int gwk, .int gwc, .int gwg, .int gws, .ref gwa, .ref gwb]))], [(gwa, .inl (cy 3, gwan, .inr (.inr (.inr (.inr (yad gwad))))))], xg_rows gwad gwan (cy 1) gwak gwaG] 0 0 [(0, .ref g), (1, .int i1), (2, .int i2), (3, .int i3)] 40 [.int r_11, .ref g] := by
    refine xr_iconst (n := 41) (v := 1) C dd_X9_left_1.2.2.2.2.2.2.1 rfl rfl ?_
    obtain ⟨x_12, hx_12, hR⟩ := yf_b hR
    refine xr_callV (n := 44) (As := [.int r_11, .int 1]) (rest := []) C (kX9_start_r l D cy (g := g) (gth := gth) (gw := gw) (gB := gB) (gK := gK) (gU := gU) (gS := gS) (gbe := gbe) (gwo := gwo) (gta := gta) (gn := gn) (glr := glr) (glc := glc) (gti := gti) (ggo := ggo) (gR := gR) (gch := gch) (gD := gD) (i1 := r_11) (i2 := 1) hx_12) mX9_start u_1301 u_1303 u_29 0 rfl rfl 4 [0] [1, 2, 3] rfl (by decide +kernel) rfl rfl rfl rfl (Nat.le_of_ble_eq_true rfl) (Nat.le_of_ble_eq_true rfl) (Nat.le_of_ble_eq_true rfl) (Nat.le_of_ble_eq_true rfl) (Nat.le_of_ble_eq_true rfl) dd_X9_left_1.2.2.2.2.2.2.2.1 rfl (fun v_13 u_14 hp_15 => ?_)
    obtain ⟨rfl, rfl⟩ := hp_15
    refine xr_perm C 4 [0, 1, 2, 3] [] [[(g, .inr (11, [.int x_12.2, .ref gw, .ref gB, .ref gK, .ref gU, .ref gS, .int gbe, .int gwo, .long gta, .ref gn, .int glr, .int glc, .int gti, .int ggo, .ref gR, .int gch, .ref gD]))], [(gw, .inr (10, [.int gwr, .int gwk, .int gwc, .int gwg, .int gws, .ref gwa, .ref gwb]))], [(gwa, .inl (cy 3, gwan, .inr (.inr (.inr (.inr (yad gwad))))))], xg_rows gwad gwan (cy 1) gwak gwaG] rfl (by decide +kernel) rfl ?_
    refine xr_st (st' := [.int x_12.1]) rfl ?_
    refine xr_if_ne (tgt := 71) (n := 47) C dd_X9_left_1.2.2.2.2.2.2.2.2.1 rfl rfl (fun c_16 => ?_) (fun c_16 => ?_)
    · replace hR := yf_f c_16 hR
      refine xr_iconst (n := 72) (v := 0) C dd_X9_left_2.2.2.2.2.2.1 rfl rfl ?_
      obtain rfl := Option.some.inj hR
      exact ret 0 ⟨rfl, rfl⟩ (Nat.le_of_ble_eq_true rfl) (Nat.le_of_ble_eq_true rfl) dd_X9_left_2.2.2.2.2.2.2.1
    · replace hR := yf_t c_16 hR
      refine xr_aload_n (n := 48) (j := 0) C dd_X9_left_1.2.2.2.2.2.2.2.2.2.1 rfl rfl ?_
      refine xr_iload_n (n := 49) (j := 3) C dd_X9_left_1.2.2.2.2.2.2.2.2.2.2.1 rfl rfl ?_
      refine xr_bipush (n := 51) (v := -9) C dd_X9_left_1.2.2.2.2.2.2.2.2.2.2.2.1 rfl rfl ?_
      refine xr_bipush (n := 53) (v := 9) C dd_X9_left_1.2.2.2.2.2.2.2.2.2.2.2.2.1 rfl rfl ?_
      obtain ⟨x_17, hx_17, hR⟩ := yf_b hR
      refine xr_callSp (n := 56) (As := [.int i3, .int (-9), .int 9]) (rest := [.ref g]) C (kX9_isIn l D cy (i1 := i3) (i2 := -9) (i3 := 9) hx_17) mX9_isIn u_1298 u_1299 4 [] [0, 1, 2, 3] rfl (by decide +kernel) rfl rfl rfl rfl (Nat.le_of_ble_eq_true rfl) (Nat.le_of_ble_eq_true rfl) (Nat.le_of_ble_eq_true rfl) (Nat.le_of_ble_eq_true rfl) (Nat.le_of_ble_eq_true rfl) dd_X9_left_1.2.2.2.2.2.2.2.2.2.2.2.2.2.1 rfl (fun _ _ hp => hp.2) (fun v_18 hp_20 => ?_)
      obtain ⟨rfl, -⟩ := hp_20
      refine xr_st (st' := [.int x_17, .ref g]) rfl ?_
      obtain ⟨r_22, hE_22, hR⟩ := yf_b hR
      have J_22 : X p l e (yR 3 0 0) s m args below meth c D A H0 5 Q [[(g, .inr (11, [.int x_12.2, .ref gw, .ref gB, .ref gK, .ref gU, .ref gS, .int gbe, .int gwo, .long gta, .ref gn, .int glr, .int glc, .int gti, .int ggo, .ref gR, .int gch, .ref gD]))], [(gw, .inr (10, [.int gwr, .int gwk, .int gwc, .int gwg, .int gws, .ref gwa, .ref gwb]))], [(gwa, .inl (cy 3, gwan, .inr (.inr (.inr (.inr (yad gwad))))))], xg_rows gwad gwan (cy 1) gwak gwaG] 0 0 [(0, .ref g), (1, .int i1), (2, .int i2), (3, .int i3)] 64 [.int r_22, .ref g] := by
        refine xr_iconst (n := 65) (v := 2) C dd_X9_left_2.2.2.1 rfl rfl ?_
        obtain ⟨x_23, hx_23, hR⟩ := yf_b hR
        refine xr_callV (n := 68) (As := [.int r_22, .int 2]) (rest := []) C (kX9_refuse_r l D cy (g := g) (gth := x_12.2) (gw := gw) (gB := gB) (gK := gK) (gU := gU) (gS := gS) (gbe := gbe) (gwo := gwo) (gta := gta) (gn := gn) (glr := glr) (glc := glc) (gti := gti) (ggo := ggo) (gR := gR) (gch := gch) (gD := gD) (i1 := r_22) (i2 := 2) hx_23) mX9_refuse u_1305 u_1307 u_30 0 rfl rfl 4 [0] [1, 2, 3] rfl (by decide +kernel) rfl rfl rfl rfl (Nat.le_of_ble_eq_true rfl) (Nat.le_of_ble_eq_true rfl) (Nat.le_of_ble_eq_true rfl) (Nat.le_of_ble_eq_true rfl) (Nat.le_of_ble_eq_true rfl) dd_X9_left_2.2.2.2.1 rfl (fun v_24 u_25 hp_26 => ?_)
        obtain ⟨rfl, rfl⟩ := hp_26
        refine xr_perm C 4 [0, 1, 2, 3] [] [[(g, .inr (11, [.int x_23.2, .ref gw, .ref gB, .ref gK, .ref gU, .ref gS, .int gbe, .int gwo, .long gta, .ref gn, .int glr, .int glc, .int gti, .int ggo, .ref gR, .int gch, .ref gD]))], [(gw, .inr (10, [.int gwr, .int gwk, .int gwc, .int gwg, .int gws, .ref gwa, .ref gwb]))], [(gwa, .inl (cy 3, gwan, .inr (.inr (.inr (.inr (yad gwad))))))], xg_rows gwad gwan (cy 1) gwak gwaG] rfl (by decide +kernel) rfl ?_
        refine xr_st (st' := [.int x_23.1]) rfl ?_
        refine xr_if_eq (tgt := 73) (n := 71) C dd_X9_left_2.2.2.2.2.1 rfl rfl (fun c_27 => ?_) (fun c_27 => ?_)
        · replace hR := yf_t c_27 hR
          refine xr_aload_n (n := 74) (j := 0) C dd_X9_left_2.2.2.2.2.2.2.2.1 rfl rfl ?_
          refine xr_get (n := 77) C 0 rfl rfl 1 (by decide) in_X9 u_1238 rfl (v := .ref gw) rfl dd_X9_left_2.2.2.2.2.2.2.2.2.1 rfl ?_
          refine xr_get (n := 80) C 1 rfl rfl 5 (by decide) in_X8 u_1211 rfl (v := .ref gwa) rfl dd_X9_left_2.2.2.2.2.2.2.2.2.2.1 rfl ?_
          refine xr_iload_n (n := 81) (j := 1) C dd_X9_left_2.2.2.2.2.2.2.2.2.2.2.1 rfl rfl ?_
          obtain ⟨g_28, hR⟩ := yf_g hR
          refine xr_aald (n := 82) C 2 0 rfl 3 rfl rfl g_28 rfl dd_X9_left_2.2.2.2.2.2.2.2.2.2.2.2.1 rfl ?_
          refine xr_iload_n (n := 83) (j := 2) C dd_X9_left_2.2.2.2.2.2.2.2.2.2.2.2.2.1 rfl rfl ?_
          obtain ⟨g_29, hR⟩ := yf_g hR
          refine xr_ialdg (n := 84) C 3 rfl i1.toNatClampNeg (ylt g_28) g_29 dd_X9_left_2.2.2.2.2.2.2.2.2.2.2.2.2.2.1 rfl ?_
          refine xr_istore (n := 86) C [(4, .int (gwaG i1.toNatClampNeg i2.toNatClampNeg)), (0, .ref g), (1, .int i1), (2, .int i2), (3, .int i3)] dd_X9_left_2.2.2.2.2.2.2.2.2.2.2.2.2.2.2.1 (by decide) rfl rfl ?_
          refine xr_aload_n (n := 87) (j := 1) C dd_X9_left_2.2.2.2.2.2.2.2.2.2.2.2.2.2.2.2.1 rfl rfl ?_
          refine xr_get (n := 90) C 0 rfl rfl 1 (by decide) in_X9 u_1238 rfl (v := .ref gw) rfl dd_X9_left_3.1 rfl ?_
          refine xr_get (n := 93) C 1 rfl rfl 5 (by decide) in_X8 u_1211 rfl (v := .ref gwa) rfl dd_X9_left_3.2.1 rfl ?_
          refine xr_iload_n (n := 94) (j := 2) C dd_X9_left_3.2.2.1 rfl rfl ?_
          obtain ⟨g_30, hR⟩ := yf_g hR
          refine xr_aald (n := 95) C 2 0 rfl 3 rfl rfl g_30 rfl dd_X9_left_3.2.2.2.1 rfl ?_
          refine xr_iload_n (n := 96) (j := 3) C dd_X9_left_3.2.2.2.2.1 rfl rfl ?_
          refine xr_iload_n (n := 97) (j := 4) C dd_X9_left_3.2.2.2.2.2.1 rfl rfl ?_
          obtain ⟨g_31, hR⟩ := yf_g hR
          refine xr_iastg (n := 98) C 3 rfl i1.toNatClampNeg (ylt g_30) g_31 [[(g, .inr (11, [.int x_23.2, .ref gw, .ref gB, .ref gK, .ref gU, .ref gS, .int gbe, .int gwo, .long gta, .ref gn, .int glr, .int glc, .int gti, .int ggo, .ref gR, .int gch, .ref gD]))], [(gw, .inr (10, [.int gwr, .int gwk, .int gwc, .int gwg, .int gws, .ref gwa, .ref gwb]))], [(gwa, .inl (cy 3, gwan, .inr (.inr (.inr (.inr (yad gwad))))))], xg_rows gwad gwan (cy 1) gwak (upg gwaG i1.toNatClampNeg i2.toNatClampNeg i3)] rfl dd_X9_left_3.2.2.2.2.2.2.1 rfl ?_
          refine xr_iload (n := 100) (j := 0) C dd_X9_left_3.2.2.2.2.2.2.2.1 rfl rfl ?_
          obtain rfl := Option.some.inj hR
          exact ret (gwaG i1.toNatClampNeg i2.toNatClampNeg) ⟨rfl, rfl⟩ (Nat.le_of_ble_eq_true rfl) (Nat.le_of_ble_eq_true rfl) dd_X9_left_3.2.2.2.2.2.2.2.2.1
        · replace hR := yf_f c_27 hR
          refine xr_iconst (n := 72) (v := 0) C dd_X9_left_2.2.2.2.2.2.1 rfl rfl ?_
          obtain rfl := Option.some.inj hR
          exact ret 0 ⟨rfl, rfl⟩ (Nat.le_of_ble_eq_true rfl) (Nat.le_of_ble_eq_true rfl) dd_X9_left_2.2.2.2.2.2.2.1
      refine xr_if_ne (tgt := 63) (n := 59) C dd_X9_left_1.2.2.2.2.2.2.2.2.2.2.2.2.2.2.1 rfl rfl (fun c_32 => ?_) (fun c_32 => ?_)
      · replace hE_22 := yf_f c_32 hE_22
        refine xr_iconst (n := 64) (v := 0) C dd_X9_left_2.2.1 rfl rfl ?_
        have e_33 := Option.some.inj hE_22
        subst e_33
        exact J_22
      · replace hE_22 := yf_t c_32 hE_22
        refine xr_iconst (n := 60) (v := 1) C dd_X9_left_1.2.2.2.2.2.2.2.2.2.2.2.2.2.2.2.1 rfl rfl ?_
        refine xr_goto (tgt := 64) C dd_X9_left_2.1 rfl ?_
        have e_34 := Option.some.inj hE_22
        subst e_34
        exact J_22
  refine xr_if_eq (tgt := 35) (n := 18) C dd_X9_left_0.2.2.2.2.2.2.2.2.2.1 rfl rfl (fun c_35 => ?_) (fun c_35 => ?_)
  · replace hE_11 := yf_t c_35 hE_11
    refine xr_iconst (n := 36) (v := 1) C dd_X9_left_1.2.2.2.1 rfl rfl ?_
    refine xr_goto (tgt := 40) C dd_X9_left_1.2.2.2.2.1 rfl ?_
    have e_36 := Option.some.inj hE_11
    subst e_36
    exact J_11
  · replace hE_11 := yf_f c_35 hE_11
    refine xr_iload_n (n := 19) (j := 2) C dd_X9_left_0.2.2.2.2.2.2.2.2.2.2.1 rfl rfl ?_
    refine xr_iconst (n := 20) (v := 0) C dd_X9_left_0.2.2.2.2.2.2.2.2.2.2.2.1 rfl rfl ?_
    refine xr_aload_n (n := 21) (j := 0) C dd_X9_left_0.2.2.2.2.2.2.2.2.2.2.2.2.1 rfl rfl ?_
    refine xr_get (n := 24) C 0 rfl rfl 1 (by decide) in_X9 u_1238 rfl (v := .ref gw) rfl dd_X9_left_0.2.2.2.2.2.2.2.2.2.2.2.2.2.1 rfl ?_
    refine xr_get (n := 27) C 1 rfl rfl 1 (by decide) in_X8 u_1202 rfl (v := .int gwk) rfl dd_X9_left_0.2.2.2.2.2.2.2.2.2.2.2.2.2.2.1 rfl ?_
    refine xr_iconst (n := 28) (v := 1) C dd_X9_left_0.2.2.2.2.2.2.2.2.2.2.2.2.2.2.2.1 rfl rfl ?_
    refine xr_isub (n := 29) C dd_X9_left_1.1 rfl ?_
    obtain ⟨x_37, hx_37, hE_11⟩ := yf_b hE_11
    refine xr_callSp (n := 32) (As := [.int i2, .int 0, .int (gwk - 1)]) (rest := [.ref g]) C (kX9_isIn l D cy (i1 := i2) (i2 := 0) (i3 := gwk - 1) hx_37) mX9_isIn u_1298 u_1299 4 [] [0, 1, 2, 3] rfl (by decide +kernel) rfl rfl rfl rfl (Nat.le_of_ble_eq_true rfl) (Nat.le_of_ble_eq_true rfl) (Nat.le_of_ble_eq_true rfl) (Nat.le_of_ble_eq_true rfl) (Nat.le_of_ble_eq_true rfl) dd_X9_left_1.2.1 rfl (fun _ _ hp => hp.2) (fun v_38 hp_40 => ?_)
    obtain ⟨rfl, -⟩ := hp_40
    refine xr_st (st' := [.int x_37, .ref g]) rfl ?_
    refine xr_if_ne (tgt := 39) (n := 35) C dd_X9_left_1.2.2.1 rfl rfl (fun c_41 => ?_) (fun c_41 => ?_)
    · replace hE_11 := yf_f c_41 hE_11
      refine xr_iconst (n := 40) (v := 0) C dd_X9_left_1.2.2.2.2.2.1 rfl rfl ?_
      have e_42 := Option.some.inj hE_11
      subst e_42
      exact J_11
    · replace hE_11 := yf_t c_41 hE_11
      refine xr_iconst (n := 36) (v := 1) C dd_X9_left_1.2.2.2.1 rfl rfl ?_
      refine xr_goto (tgt := 40) C dd_X9_left_1.2.2.2.2.1 rfl ?_
      have e_43 := Option.some.inj hE_11
      subst e_43
      exact J_11
theorem dd_X9_top_0 : dk_R cX9_top [(0, .aload_n 0, 1), (1, .iload_n 1, 1), (2, .iconst 0, 1), (3, .aload_n 0, 1), (4, .getfield 16, 3), (7, .getfield 52, 3), (10, .iconst 1, 1), (11, .isub, 1), (12, .invokestatic 75, 3), (15, .ifCond .eq 20, 3), (18, .iload_n 2, 1), (19, .iconst 0, 1), (20, .aload_n 0, 1), (21, .getfield 16, 3), (24, .getfield 55, 3), (27, .iconst 1, 1)] := dk_use _ _ (by decide +kernel)
theorem dd_X9_top_1 : dk_R cX9_top [(28, .isub, 1), (29, .invokestatic 75, 3), (32, .ifCond .ne 7, 3), (35, .iconst 1, 1), (36, .goto 4, 3), (39, .iconst 0, 1), (40, .iconst 1, 1), (41, .invokevirtual 79, 3), (44, .ifCond .ne 27, 3), (47, .aload_n 0, 1), (48, .iload_n 3, 1), (49, .bipush (-9), 2), (51, .bipush 9, 2), (53, .invokestatic 75, 3), (56, .ifCond .ne 7, 3), (59, .iconst 1, 1)] := dk_use _ _ (by decide +kernel)
theorem dd_X9_top_2 : dk_R cX9_top [(60, .goto 4, 3), (63, .iconst 0, 1), (64, .iconst 2, 1), (65, .invokevirtual 67, 3), (68, .ifCond .eq 5, 3), (71, .iconst 0, 1), (72, .ireturn, 1), (73, .aload_n 0, 1), (74, .getfield 16, 3), (77, .getfield 61, 3), (80, .iload_n 1, 1), (81, .aaload, 1), (82, .iload_n 2, 1), (83, .iaload, 1), (84, .istore 4, 2), (86, .aload_n 0, 1)] := dk_use _ _ (by decide +kernel)
theorem dd_X9_top_3 : dk_R cX9_top [(87, .getfield 16, 3), (90, .getfield 61, 3), (93, .iload_n 1, 1), (94, .aaload, 1), (95, .iload_n 2, 1), (96, .iload_n 3, 1), (97, .iastore, 1), (98, .iload 4, 2), (100, .ireturn, 1)] := dk_use _ _ (by decide +kernel)
def fX9_top_i (gwk : Int32) (gwc : Int32) (gwbn : Nat) (gwbk : Nat) (gwbG : Nat → Nat → Int32) (i1 : Int32) (i2 : Int32) (i3 : Int32) : Option (Int32 × Int32 × (Nat → Nat → Int32)) := ((fX9_isIn i1 0 (gwk - 1)).bind fun x_1 => ((((if x_1 = 0 then some 1 else ((fX9_isIn i2 0 (gwc - 1)).bind fun x_37 => (if x_37 = 0 then some 1 else some 0))) : Option (Int32))).bind fun r_11 => ((fX9_start_i r_11 1).bind fun x_12 => (if x_12.1 = 0 then ((fX9_isIn i3 (-9) 9).bind fun x_17 => ((((if x_17 = 0 then some 1 else some 0) : Option (Int32))).bind fun r_22 => ((fX9_refuse_i x_12.2 r_22 2).bind fun x_23 => (if x_23.1 = 0 then (if ¬ (i1 < 0 ∨ gwbn ≤ i1.toNatClampNeg) then (if ¬ (i2 < 0 ∨ gwbk ≤ i2.toNatClampNeg) then (if ¬ (i1 < 0 ∨ gwbn ≤ i1.toNatClampNeg) then (if ¬ (i2 < 0 ∨ gwbk ≤ i2.toNatClampNeg) then some (gwbG i1.toNatClampNeg i2.toNatClampNeg, x_23.2, upg gwbG i1.toNatClampNeg i2.toNatClampNeg i3) else none) else none) else none) else none) else some (0, x_23.2, gwbG))))) else some (0, x_12.2, gwbG)))))
abbrev hX9_top : Cond := .code yX9_top cX9_top 5 (some .int)
theorem mX9_top : yM yX9_top hX9_top 3 := ⟨u_1322, u_64, by decide +kernel, by decide +kernel, by decide +kernel⟩
set_option maxHeartbeats 4000000 in
set_option maxRecDepth 100000 in
theorem kX9_top_i (l : Launch) (D : va_G) (cy : Nat → ClassId) (g : Nat) (gth : Int32) (gw : Nat) (gB : Nat) (gK : Nat) (gU : Nat) (gS : Nat) (gbe : Int32) (gwo : Int32) (gta : Int64) (glr : Int32) (glc : Int32) (gti : Int32) (ggo : Int32) (gR : Nat) (gch : Int32) (gD : Nat) (gwr : Int32) (gwk : Int32) (gwc : Int32) (gwg : Int32) (gws : Int32) (gwa : Nat) (gwb : Nat) (gwbd : Nat → Nat) (gwbn : Nat) (gwbk : Nat) (gwbG : Nat → Nat → Int32) (i1 : Int32) (i2 : Int32) (i3 : Int32) {res : Int32 × Int32 × (Nat → Nat → Int32)} (hR : fX9_top_i gwk gwc gwbn gwbk gwbG i1 i2 i3 = some res) : YM l D cy yX9_top hX9_top 3 0 0 [.ref g, .int i1, .int i2, .int i3] [[(g, .inr (11, [.int gth, .ref gw, .ref gB, .ref gK, .ref gU, .ref gS, .int gbe, .int gwo, .long gta, .null, .int glr, .int glc, .int gti, .int ggo, .ref gR, .int gch, .ref gD]))], [(gw, .inr (10, [.int gwr, .int gwk, .int gwc, .int gwg, .int gws, .ref gwa, .ref gwb]))], [(gwb, .inl (cy 3, gwbn, .inr (.inr (.inr (.inr (yad gwbd))))))], xg_rows gwbd gwbn (cy 1) gwbk gwbG] (fun v u => v = some (.int res.1) ∧ u = [[(g, .inr (11, [.int res.2.1, .ref gw, .ref gB, .ref gK, .ref gU, .ref gS, .int gbe, .int gwo, .long gta, .null, .int glr, .int glc, .int gti, .int ggo, .ref gR, .int gch, .ref gD]))], [(gw, .inr (10, [.int gwr, .int gwk, .int gwc, .int gwg, .int gws, .ref gwa, .ref gwb]))], [(gwb, .inl (cy 3, gwbn, .inr (.inr (.inr (.inr (yad gwbd))))))], xg_rows gwbd gwbn (cy 1) gwbk res.2.2]) := by
  unfold fX9_top_i at hR
  refine YM.ofI (cc := cX9_top) (maxL := 5) (ret := (some .int)) (by decide +kernel) rfl (Nat.le_of_ble_eq_true rfl) [(0, .ref g), (1, .int i1), (2, .int i2), (3, .int i3)] rfl rfl (fun p e s m args below meth c A H0 Q C hnm ret => ?_)
  refine xr_aload_n (n := 1) (j := 0) C dd_X9_top_0.1 rfl rfl ?_
  refine xr_iload_n (n := 2) (j := 1) C dd_X9_top_0.2.1 rfl rfl ?_
  refine xr_iconst (n := 3) (v := 0) C dd_X9_top_0.2.2.1 rfl rfl ?_
  refine xr_aload_n (n := 4) (j := 0) C dd_X9_top_0.2.2.2.1 rfl rfl ?_
  refine xr_get (n := 7) C 0 rfl rfl 1 (by decide) in_X9 u_1238 rfl (v := .ref gw) rfl dd_X9_top_0.2.2.2.2.1 rfl ?_
  refine xr_get (n := 10) C 1 rfl rfl 1 (by decide) in_X8 u_1202 rfl (v := .int gwk) rfl dd_X9_top_0.2.2.2.2.2.1 rfl ?_
  refine xr_iconst (n := 11) (v := 1) C dd_X9_top_0.2.2.2.2.2.2.1 rfl rfl ?_
  refine xr_isub (n := 12) C dd_X9_top_0.2.2.2.2.2.2.2.1 rfl ?_
  obtain ⟨x_1, hx_1, hR⟩ := yf_b hR
  refine xr_callSp (n := 15) (As := [.int i1, .int 0, .int (gwk - 1)]) (rest := [.ref g]) C (kX9_isIn l D cy (i1 := i1) (i2 := 0) (i3 := gwk - 1) hx_1) mX9_isIn u_1298 u_1299 4 [] [0, 1, 2, 3] rfl (by decide +kernel) rfl rfl rfl rfl (Nat.le_of_ble_eq_true rfl) (Nat.le_of_ble_eq_true rfl) (Nat.le_of_ble_eq_true rfl) (Nat.le_of_ble_eq_true rfl) (Nat.le_of_ble_eq_true rfl) dd_X9_top_0.2.2.2.2.2.2.2.2.1 rfl (fun _ _ hp => hp.2) (fun v_2 hp_4 => ?_)
  obtain ⟨rfl, -⟩ := hp_4
  refine xr_st (st' := [.int x_1, .ref g]) rfl ?_
  obtain ⟨r_11, hE_11, hR⟩ := yf_b hR
  have J_11 : X p l e (yR 3 0 0) s m args below meth c D A H0 5 Q [[(g, .inr (11, [.int gth, .ref gw, .ref gB, .ref gK, .ref gU, .ref gS, .int gbe, .int gwo, .long gta, .null, .int glr, .int glc, .int gti, .int ggo, .ref gR, .int gch, .ref gD]))], [(gw, .inr (10, [.int gwr, .int gwk, .int gwc, .int gwg, .int gws, .ref gwa, .ref gwb]))], [(gwb, .inl (cy 3, gwbn, .inr (.inr (.inr (.inr (yad gwbd))))))], xg_rows gwbd gwbn (cy 1) gwbk gwbG] 0 0 [(0, .ref g), (1, .int i1), (2, .int i2), (3, .int i3)] 40 [.int r_11, .ref g] := by
    refine xr_iconst (n := 41) (v := 1) C dd_X9_top_1.2.2.2.2.2.2.1 rfl rfl ?_
    obtain ⟨x_12, hx_12, hR⟩ := yf_b hR
    refine xr_callV (n := 44) (As := [.int r_11, .int 1]) (rest := []) C (kX9_start_i l D cy (g := g) (gth := gth) (gw := gw) (gB := gB) (gK := gK) (gU := gU) (gS := gS) (gbe := gbe) (gwo := gwo) (gta := gta) (glr := glr) (glc := glc) (gti := gti) (ggo := ggo) (gR := gR) (gch := gch) (gD := gD) (i1 := r_11) (i2 := 1) hx_12) mX9_start u_1301 u_1303 u_29 0 rfl rfl 4 [0] [1, 2, 3] rfl (by decide +kernel) rfl rfl rfl rfl (Nat.le_of_ble_eq_true rfl) (Nat.le_of_ble_eq_true rfl) (Nat.le_of_ble_eq_true rfl) (Nat.le_of_ble_eq_true rfl) (Nat.le_of_ble_eq_true rfl) dd_X9_top_1.2.2.2.2.2.2.2.1 rfl (fun v_13 u_14 hp_15 => ?_)
    obtain ⟨rfl, rfl⟩ := hp_15
    refine xr_perm C 4 [0, 1, 2, 3] [] [[(g, .inr (11, [.int x_12.2, .ref gw, .ref gB, .ref gK, .ref gU, .ref gS, .int gbe, .int gwo, .long gta, .null, .int glr, .int glc, .int gti, .int ggo, .ref gR, .int gch, .ref gD]))], [(gw, .inr (10, [.int gwr, .int gwk, .int gwc, .int gwg, .int gws, .ref gwa, .ref gwb]))], [(gwb, .inl (cy 3, gwbn, .inr (.inr (.inr (.inr (yad gwbd))))))], xg_rows gwbd gwbn (cy 1) gwbk gwbG] rfl (by decide +kernel) rfl ?_
    refine xr_st (st' := [.int x_12.1]) rfl ?_
    refine xr_if_ne (tgt := 71) (n := 47) C dd_X9_top_1.2.2.2.2.2.2.2.2.1 rfl rfl (fun c_16 => ?_) (fun c_16 => ?_)
    · replace hR := yf_f c_16 hR
      refine xr_iconst (n := 72) (v := 0) C dd_X9_top_2.2.2.2.2.2.1 rfl rfl ?_
      obtain rfl := Option.some.inj hR
      exact ret 0 ⟨rfl, rfl⟩ (Nat.le_of_ble_eq_true rfl) (Nat.le_of_ble_eq_true rfl) dd_X9_top_2.2.2.2.2.2.2.1
    · replace hR := yf_t c_16 hR
      refine xr_aload_n (n := 48) (j := 0) C dd_X9_top_1.2.2.2.2.2.2.2.2.2.1 rfl rfl ?_
      refine xr_iload_n (n := 49) (j := 3) C dd_X9_top_1.2.2.2.2.2.2.2.2.2.2.1 rfl rfl ?_
      refine xr_bipush (n := 51) (v := -9) C dd_X9_top_1.2.2.2.2.2.2.2.2.2.2.2.1 rfl rfl ?_
      refine xr_bipush (n := 53) (v := 9) C dd_X9_top_1.2.2.2.2.2.2.2.2.2.2.2.2.1 rfl rfl ?_
      obtain ⟨x_17, hx_17, hR⟩ := yf_b hR
      refine xr_callSp (n := 56) (As := [.int i3, .int (-9), .int 9]) (rest := [.ref g]) C (kX9_isIn l D cy (i1 := i3) (i2 := -9) (i3 := 9) hx_17) mX9_isIn u_1298 u_1299 4 [] [0, 1, 2, 3] rfl (by decide +kernel) rfl rfl rfl rfl (Nat.le_of_ble_eq_true rfl) (Nat.le_of_ble_eq_true rfl) (Nat.le_of_ble_eq_true rfl) (Nat.le_of_ble_eq_true rfl) (Nat.le_of_ble_eq_true rfl) dd_X9_top_1.2.2.2.2.2.2.2.2.2.2.2.2.2.1 rfl (fun _ _ hp => hp.2) (fun v_18 hp_20 => ?_)
      obtain ⟨rfl, -⟩ := hp_20
      refine xr_st (st' := [.int x_17, .ref g]) rfl ?_
      obtain ⟨r_22, hE_22, hR⟩ := yf_b hR
      have J_22 : X p l e (yR 3 0 0) s m args below meth c D A H0 5 Q [[(g, .inr (11, [.int x_12.2, .ref gw, .ref gB, .ref gK, .ref gU, .ref gS, .int gbe, .int gwo, .long gta, .null, .int glr, .int glc, .int gti, .int ggo, .ref gR, .int gch, .ref gD]))], [(gw, .inr (10, [.int gwr, .int gwk, .int gwc, .int gwg, .int gws, .ref gwa, .ref gwb]))], [(gwb, .inl (cy 3, gwbn, .inr (.inr (.inr (.inr (yad gwbd))))))], xg_rows gwbd gwbn (cy 1) gwbk gwbG] 0 0 [(0, .ref g), (1, .int i1), (2, .int i2), (3, .int i3)] 64 [.int r_22, .ref g] := by
        refine xr_iconst (n := 65) (v := 2) C dd_X9_top_2.2.2.1 rfl rfl ?_
        obtain ⟨x_23, hx_23, hR⟩ := yf_b hR
        refine xr_callV (n := 68) (As := [.int r_22, .int 2]) (rest := []) C (kX9_refuse_i l D cy (g := g) (gth := x_12.2) (gw := gw) (gB := gB) (gK := gK) (gU := gU) (gS := gS) (gbe := gbe) (gwo := gwo) (gta := gta) (glr := glr) (glc := glc) (gti := gti) (ggo := ggo) (gR := gR) (gch := gch) (gD := gD) (i1 := r_22) (i2 := 2) hx_23) mX9_refuse u_1305 u_1307 u_30 0 rfl rfl 4 [0] [1, 2, 3] rfl (by decide +kernel) rfl rfl rfl rfl (Nat.le_of_ble_eq_true rfl) (Nat.le_of_ble_eq_true rfl) (Nat.le_of_ble_eq_true rfl) (Nat.le_of_ble_eq_true rfl) (Nat.le_of_ble_eq_true rfl) dd_X9_top_2.2.2.2.1 rfl (fun v_24 u_25 hp_26 => ?_)
        obtain ⟨rfl, rfl⟩ := hp_26
        refine xr_perm C 4 [0, 1, 2, 3] [] [[(g, .inr (11, [.int x_23.2, .ref gw, .ref gB, .ref gK, .ref gU, .ref gS, .int gbe, .int gwo, .long gta, .null, .int glr, .int glc, .int gti, .int ggo, .ref gR, .int gch, .ref gD]))], [(gw, .inr (10, [.int gwr, .int gwk, .int gwc, .int gwg, .int gws, .ref gwa, .ref gwb]))], [(gwb, .inl (cy 3, gwbn, .inr (.inr (.inr (.inr (yad gwbd))))))], xg_rows gwbd gwbn (cy 1) gwbk gwbG] rfl (by decide +kernel) rfl ?_
        refine xr_st (st' := [.int x_23.1]) rfl ?_
        refine xr_if_eq (tgt := 73) (n := 71) C dd_X9_top_2.2.2.2.2.1 rfl rfl (fun c_27 => ?_) (fun c_27 => ?_)
        · replace hR := yf_t c_27 hR
          refine xr_aload_n (n := 74) (j := 0) C dd_X9_top_2.2.2.2.2.2.2.2.1 rfl rfl ?_
          refine xr_get (n := 77) C 0 rfl rfl 1 (by decide) in_X9 u_1238 rfl (v := .ref gw) rfl dd_X9_top_2.2.2.2.2.2.2.2.2.1 rfl ?_
          refine xr_get (n := 80) C 1 rfl rfl 6 (by decide) in_X8 u_1213 rfl (v := .ref gwb) rfl dd_X9_top_2.2.2.2.2.2.2.2.2.2.1 rfl ?_
          refine xr_iload_n (n := 81) (j := 1) C dd_X9_top_2.2.2.2.2.2.2.2.2.2.2.1 rfl rfl ?_
          obtain ⟨g_28, hR⟩ := yf_g hR
          refine xr_aald (n := 82) C 2 0 rfl 3 rfl rfl g_28 rfl dd_X9_top_2.2.2.2.2.2.2.2.2.2.2.2.1 rfl ?_
          refine xr_iload_n (n := 83) (j := 2) C dd_X9_top_2.2.2.2.2.2.2.2.2.2.2.2.2.1 rfl rfl ?_
          obtain ⟨g_29, hR⟩ := yf_g hR
          refine xr_ialdg (n := 84) C 3 rfl i1.toNatClampNeg (ylt g_28) g_29 dd_X9_top_2.2.2.2.2.2.2.2.2.2.2.2.2.2.1 rfl ?_
          refine xr_istore (n := 86) C [(4, .int (gwbG i1.toNatClampNeg i2.toNatClampNeg)), (0, .ref g), (1, .int i1), (2, .int i2), (3, .int i3)] dd_X9_top_2.2.2.2.2.2.2.2.2.2.2.2.2.2.2.1 (by decide) rfl rfl ?_
          refine xr_aload_n (n := 87) (j := 1) C dd_X9_top_2.2.2.2.2.2.2.2.2.2.2.2.2.2.2.2.1 rfl rfl ?_
          refine xr_get (n := 90) C 0 rfl rfl 1 (by decide) in_X9 u_1238 rfl (v := .ref gw) rfl dd_X9_top_3.1 rfl ?_
          refine xr_get (n := 93) C 1 rfl rfl 6 (by decide) in_X8 u_1213 rfl (v := .ref gwb) rfl dd_X9_top_3.2.1 rfl ?_
          refine xr_iload_n (n := 94) (j := 2) C dd_X9_top_3.2.2.1 rfl rfl ?_
          obtain ⟨g_30, hR⟩ := yf_g hR
          refine xr_aald (n := 95) C 2 0 rfl 3 rfl rfl g_30 rfl dd_X9_top_3.2.2.2.1 rfl ?_
          refine xr_iload_n (n := 96) (j := 3) C dd_X9_top_3.2.2.2.2.1 rfl rfl ?_
          refine xr_iload_n (n := 97) (j := 4) C dd_X9_top_3.2.2.2.2.2.1 rfl rfl ?_
          obtain ⟨g_31, hR⟩ := yf_g hR
          refine xr_iastg (n := 98) C 3 rfl i1.toNatClampNeg (ylt g_30) g_31 [[(g, .inr (11, [.int x_23.2, .ref gw, .ref gB, .ref gK, .ref gU, .ref gS, .int gbe, .int gwo, .long gta, .null, .int glr, .int glc, .int gti, .int ggo, .ref gR, .int gch, .ref gD]))], [(gw, .inr (10, [.int gwr, .int gwk, .int gwc, .int gwg, .int gws, .ref gwa, .ref gwb]))], [(gwb, .inl (cy 3, gwbn, .inr (.inr (.inr (.inr (yad gwbd))))))], xg_rows gwbd gwbn (cy 1) gwbk (upg gwbG i1.toNatClampNeg i2.toNatClampNeg i3)] rfl dd_X9_top_3.2.2.2.2.2.2.1 rfl ?_
          refine xr_iload (n := 100) (j := 0) C dd_X9_top_3.2.2.2.2.2.2.2.1 rfl rfl ?_
          obtain rfl := Option.some.inj hR
          exact ret (gwbG i1.toNatClampNeg i2.toNatClampNeg) ⟨rfl, rfl⟩ (Nat.le_of_ble_eq_true rfl) (Nat.le_of_ble_eq_true rfl) dd_X9_top_3.2.2.2.2.2.2.2.2.1
        · replace hR := yf_f c_27 hR
          refine xr_iconst (n := 72) (v := 0) C dd_X9_top_2.2.2.2.2.2.1 rfl rfl ?_
          obtain rfl := Option.some.inj hR
          exact ret 0 ⟨rfl, rfl⟩ (Nat.le_of_ble_eq_true rfl) (Nat.le_of_ble_eq_true rfl) dd_X9_top_2.2.2.2.2.2.2.1
      refine xr_if_ne (tgt := 63) (n := 59) C dd_X9_top_1.2.2.2.2.2.2.2.2.2.2.2.2.2.2.1 rfl rfl (fun c_32 => ?_) (fun c_32 => ?_)
      · replace hE_22 := yf_f c_32 hE_22
        refine xr_iconst (n := 64) (v := 0) C dd_X9_top_2.2.1 rfl rfl ?_
        have e_33 := Option.some.inj hE_22
        subst e_33
        exact J_22
      · replace hE_22 := yf_t c_32 hE_22
        refine xr_iconst (n := 60) (v := 1) C dd_X9_top_1.2.2.2.2.2.2.2.2.2.2.2.2.2.2.2.1 rfl rfl ?_
        refine xr_goto (tgt := 64) C dd_X9_top_2.1 rfl ?_
        have e_34 := Option.some.inj hE_22
        subst e_34
        exact J_22
  refine xr_if_eq (tgt := 35) (n := 18) C dd_X9_top_0.2.2.2.2.2.2.2.2.2.1 rfl rfl (fun c_35 => ?_) (fun c_35 => ?_)
  · replace hE_11 := yf_t c_35 hE_11
    refine xr_iconst (n := 36) (v := 1) C dd_X9_top_1.2.2.2.1 rfl rfl ?_
    refine xr_goto (tgt := 40) C dd_X9_top_1.2.2.2.2.1 rfl ?_
    have e_36 := Option.some.inj hE_11
    subst e_36
    exact J_11
  · replace hE_11 := yf_f c_35 hE_11
    refine xr_iload_n (n := 19) (j := 2) C dd_X9_top_0.2.2.2.2.2.2.2.2.2.2.1 rfl rfl ?_
    refine xr_iconst (n := 20) (v := 0) C dd_X9_top_0.2.2.2.2.2.2.2.2.2.2.2.1 rfl rfl ?_
    refine xr_aload_n (n := 21) (j := 0) C dd_X9_top_0.2.2.2.2.2.2.2.2.2.2.2.2.1 rfl rfl ?_
    refine xr_get (n := 24) C 0 rfl rfl 1 (by decide) in_X9 u_1238 rfl (v := .ref gw) rfl dd_X9_top_0.2.2.2.2.2.2.2.2.2.2.2.2.2.1 rfl ?_
    refine xr_get (n := 27) C 1 rfl rfl 2 (by decide) in_X8 u_1205 rfl (v := .int gwc) rfl dd_X9_top_0.2.2.2.2.2.2.2.2.2.2.2.2.2.2.1 rfl ?_
    refine xr_iconst (n := 28) (v := 1) C dd_X9_top_0.2.2.2.2.2.2.2.2.2.2.2.2.2.2.2.1 rfl rfl ?_
    refine xr_isub (n := 29) C dd_X9_top_1.1 rfl ?_
    obtain ⟨x_37, hx_37, hE_11⟩ := yf_b hE_11
    refine xr_callSp (n := 32) (As := [.int i2, .int 0, .int (gwc - 1)]) (rest := [.ref g]) C (kX9_isIn l D cy (i1 := i2) (i2 := 0) (i3 := gwc - 1) hx_37) mX9_isIn u_1298 u_1299 4 [] [0, 1, 2, 3] rfl (by decide +kernel) rfl rfl rfl rfl (Nat.le_of_ble_eq_true rfl) (Nat.le_of_ble_eq_true rfl) (Nat.le_of_ble_eq_true rfl) (Nat.le_of_ble_eq_true rfl) (Nat.le_of_ble_eq_true rfl) dd_X9_top_1.2.1 rfl (fun _ _ hp => hp.2) (fun v_38 hp_40 => ?_)
    obtain ⟨rfl, -⟩ := hp_40
    refine xr_st (st' := [.int x_37, .ref g]) rfl ?_
    refine xr_if_ne (tgt := 39) (n := 35) C dd_X9_top_1.2.2.1 rfl rfl (fun c_41 => ?_) (fun c_41 => ?_)
    · replace hE_11 := yf_f c_41 hE_11
      refine xr_iconst (n := 40) (v := 0) C dd_X9_top_1.2.2.2.2.2.1 rfl rfl ?_
      have e_42 := Option.some.inj hE_11
      subst e_42
      exact J_11
    · replace hE_11 := yf_t c_41 hE_11
      refine xr_iconst (n := 36) (v := 1) C dd_X9_top_1.2.2.2.1 rfl rfl ?_
      refine xr_goto (tgt := 40) C dd_X9_top_1.2.2.2.2.1 rfl ?_
      have e_43 := Option.some.inj hE_11
      subst e_43
      exact J_11
def fX9_top_r (gwk : Int32) (gwc : Int32) (gwbn : Nat) (gwbk : Nat) (gwbG : Nat → Nat → Int32) (i1 : Int32) (i2 : Int32) (i3 : Int32) : Option (Int32 × Int32 × (Nat → Nat → Int32)) := ((fX9_isIn i1 0 (gwk - 1)).bind fun x_1 => ((((if x_1 = 0 then some 1 else ((fX9_isIn i2 0 (gwc - 1)).bind fun x_37 => (if x_37 = 0 then some 1 else some 0))) : Option (Int32))).bind fun r_11 => ((fX9_start_r r_11 1).bind fun x_12 => (if x_12.1 = 0 then ((fX9_isIn i3 (-9) 9).bind fun x_17 => ((((if x_17 = 0 then some 1 else some 0) : Option (Int32))).bind fun r_22 => ((fX9_refuse_r x_12.2 r_22 2).bind fun x_23 => (if x_23.1 = 0 then (if ¬ (i1 < 0 ∨ gwbn ≤ i1.toNatClampNeg) then (if ¬ (i2 < 0 ∨ gwbk ≤ i2.toNatClampNeg) then (if ¬ (i1 < 0 ∨ gwbn ≤ i1.toNatClampNeg) then (if ¬ (i2 < 0 ∨ gwbk ≤ i2.toNatClampNeg) then some (gwbG i1.toNatClampNeg i2.toNatClampNeg, x_23.2, upg gwbG i1.toNatClampNeg i2.toNatClampNeg i3) else none) else none) else none) else none) else some (0, x_23.2, gwbG))))) else some (0, x_12.2, gwbG)))))
set_option maxHeartbeats 4000000 in
set_option maxRecDepth 100000 in
theorem kX9_top_r (l : Launch) (D : va_G) (cy : Nat → ClassId) (g : Nat) (gth : Int32) (gw : Nat) (gB : Nat) (gK : Nat) (gU : Nat) (gS : Nat) (gbe : Int32) (gwo : Int32) (gta : Int64) (gn : Nat) (glr : Int32) (glc : Int32) (gti : Int32) (ggo : Int32) (gR : Nat) (gch : Int32) (gD : Nat) (gwr : Int32) (gwk : Int32) (gwc : Int32) (gwg : Int32) (gws : Int32) (gwa : Nat) (gwb : Nat) (gwbd : Nat → Nat) (gwbn : Nat) (gwbk : Nat) (gwbG : Nat → Nat → Int32) (i1 : Int32) (i2 : Int32) (i3 : Int32) {res : Int32 × Int32 × (Nat → Nat → Int32)} (hR : fX9_top_r gwk gwc gwbn gwbk gwbG i1 i2 i3 = some res) : YM l D cy yX9_top hX9_top 3 0 0 [.ref g, .int i1, .int i2, .int i3] [[(g, .inr (11, [.int gth, .ref gw, .ref gB, .ref gK, .ref gU, .ref gS, .int gbe, .int gwo, .long gta, .ref gn, .int glr, .int glc, .int gti, .int ggo, .ref gR, .int gch, .ref gD]))], [(gw, .inr (10, [.int gwr, .int gwk, .int gwc, .int gwg, .int gws, .ref gwa, .ref gwb]))], [(gwb, .inl (cy 3, gwbn, .inr (.inr (.inr (.inr (yad gwbd))))))], xg_rows gwbd gwbn (cy 1) gwbk gwbG] (fun v u => v = some (.int res.1) ∧ u = [[(g, .inr (11, [.int res.2.1, .ref gw, .ref gB, .ref gK, .ref gU, .ref gS, .int gbe, .int gwo, .long gta, .ref gn, .int glr, .int glc, .int gti, .int ggo, .ref gR, .int gch, .ref gD]))], [(gw, .inr (10, [.int gwr, .int gwk, .int gwc, .int gwg, .int gws, .ref gwa, .ref gwb]))], [(gwb, .inl (cy 3, gwbn, .inr (.inr (.inr (.inr (yad gwbd))))))], xg_rows gwbd gwbn (cy 1) gwbk res.2.2]) := by
  unfold fX9_top_r at hR
  refine YM.ofI (cc := cX9_top) (maxL := 5) (ret := (some .int)) (by decide +kernel) rfl (Nat.le_of_ble_eq_true rfl) [(0, .ref g), (1, .int i1), (2, .int i2), (3, .int i3)] rfl rfl (fun p e s m args below meth c A H0 Q C hnm ret => ?_)
  refine xr_aload_n (n := 1) (j := 0) C dd_X9_top_0.1 rfl rfl ?_
  refine xr_iload_n (n := 2) (j := 1) C dd_X9_top_0.2.1 rfl rfl ?_
  refine xr_iconst (n := 3) (v := 0) C dd_X9_top_0.2.2.1 rfl rfl ?_
  refine xr_aload_n (n := 4) (j := 0) C dd_X9_top_0.2.2.2.1 rfl rfl ?_
  refine xr_get (n := 7) C 0 rfl rfl 1 (by decide) in_X9 u_1238 rfl (v := .ref gw) rfl dd_X9_top_0.2.2.2.2.1 rfl ?_
  refine xr_get (n := 10) C 1 rfl rfl 1 (by decide) in_X8 u_1202 rfl (v := .int gwk) rfl dd_X9_top_0.2.2.2.2.2.1 rfl ?_
  refine xr_iconst (n := 11) (v := 1) C dd_X9_top_0.2.2.2.2.2.2.1 rfl rfl ?_
  refine xr_isub (n := 12) C dd_X9_top_0.2.2.2.2.2.2.2.1 rfl ?_
  obtain ⟨x_1, hx_1, hR⟩ := yf_b hR
  refine xr_callSp (n := 15) (As := [.int i1, .int 0, .int (gwk - 1)]) (rest := [.ref g]) C (kX9_isIn l D cy (i1 := i1) (i2 := 0) (i3 := gwk - 1) hx_1) mX9_isIn u_1298 u_1299 4 [] [0, 1, 2, 3] rfl (by decide +kernel) rfl rfl rfl rfl (Nat.le_of_ble_eq_true rfl) (Nat.le_of_ble_eq_true rfl) (Nat.le_of_ble_eq_true rfl) (Nat.le_of_ble_eq_true rfl) (Nat.le_of_ble_eq_true rfl) dd_X9_top_0.2.2.2.2.2.2.2.2.1 rfl (fun _ _ hp => hp.2) (fun v_2 hp_4 => ?_)
  obtain ⟨rfl, -⟩ := hp_4
  refine xr_st (st' := [.int x_1, .ref g]) rfl ?_
  obtain ⟨r_11, hE_11, hR⟩ := yf_b hR
  have J_11 : X p l e (yR 3 0 0) s m args below meth c D A H0 5 Q [[(g, .inr (11, [.int gth, .ref gw, .ref gB, .ref gK, .ref gU, .ref gS, .int gbe, .int gwo, .long gta, .ref gn, .int glr, .int glc, .int gti, .int ggo, .ref gR, .int gch, .ref gD]))], [(gw, .inr (10, [.int gwr, .int gwk, .int gwc, .int gwg, .int gws, .ref gwa, .ref gwb]))], [(gwb, .inl (cy 3, gwbn, .inr (.inr (.inr (.inr (yad gwbd))))))], xg_rows gwbd gwbn (cy 1) gwbk gwbG] 0 0 [(0, .ref g), (1, .int i1), (2, .int i2), (3, .int i3)] 40 [.int r_11, .ref g] := by
    refine xr_iconst (n := 41) (v := 1) C dd_X9_top_1.2.2.2.2.2.2.1 rfl rfl ?_
    obtain ⟨x_12, hx_12, hR⟩ := yf_b hR
    refine xr_callV (n := 44) (As := [.int r_11, .int 1]) (rest := []) C (kX9_start_r l D cy (g := g) (gth := gth) (gw := gw) (gB := gB) (gK := gK) (gU := gU) (gS := gS) (gbe := gbe) (gwo := gwo) (gta := gta) (gn := gn) (glr := glr) (glc := glc) (gti := gti) (ggo := ggo) (gR := gR) (gch := gch) (gD := gD) (i1 := r_11) (i2 := 1) hx_12) mX9_start u_1301 u_1303 u_29 0 rfl rfl 4 [0] [1, 2, 3] rfl (by decide +kernel) rfl rfl rfl rfl (Nat.le_of_ble_eq_true rfl) (Nat.le_of_ble_eq_true rfl) (Nat.le_of_ble_eq_true rfl) (Nat.le_of_ble_eq_true rfl) (Nat.le_of_ble_eq_true rfl) dd_X9_top_1.2.2.2.2.2.2.2.1 rfl (fun v_13 u_14 hp_15 => ?_)
    obtain ⟨rfl, rfl⟩ := hp_15
    refine xr_perm C 4 [0, 1, 2, 3] [] [[(g, .inr (11, [.int x_12.2, .ref gw, .ref gB, .ref gK, .ref gU, .ref gS, .int gbe, .int gwo, .long gta, .ref gn, .int glr, .int glc, .int gti, .int ggo, .ref gR, .int gch, .ref gD]))], [(gw, .inr (10, [.int gwr, .int gwk, .int gwc, .int gwg, .int gws, .ref gwa, .ref gwb]))], [(gwb, .inl (cy 3, gwbn, .inr (.inr (.inr (.inr (yad gwbd))))))], xg_rows gwbd gwbn (cy 1) gwbk gwbG] rfl (by decide +kernel) rfl ?_
    refine xr_st (st' := [.int x_12.1]) rfl ?_
    refine xr_if_ne (tgt := 71) (n := 47) C dd_X9_top_1.2.2.2.2.2.2.2.2.1 rfl rfl (fun c_16 => ?_) (fun c_16 => ?_)
    · replace hR := yf_f c_16 hR
      refine xr_iconst (n := 72) (v := 0) C dd_X9_top_2.2.2.2.2.2.1 rfl rfl ?_
      obtain rfl := Option.some.inj hR
      exact ret 0 ⟨rfl, rfl⟩ (Nat.le_of_ble_eq_true rfl) (Nat.le_of_ble_eq_true rfl) dd_X9_top_2.2.2.2.2.2.2.1
    · replace hR := yf_t c_16 hR
      refine xr_aload_n (n := 48) (j := 0) C dd_X9_top_1.2.2.2.2.2.2.2.2.2.1 rfl rfl ?_
      refine xr_iload_n (n := 49) (j := 3) C dd_X9_top_1.2.2.2.2.2.2.2.2.2.2.1 rfl rfl ?_
      refine xr_bipush (n := 51) (v := -9) C dd_X9_top_1.2.2.2.2.2.2.2.2.2.2.2.1 rfl rfl ?_
      refine xr_bipush (n := 53) (v := 9) C dd_X9_top_1.2.2.2.2.2.2.2.2.2.2.2.2.1 rfl rfl ?_
      obtain ⟨x_17, hx_17, hR⟩ := yf_b hR
      refine xr_callSp (n := 56) (As := [.int i3, .int (-9), .int 9]) (rest := [.ref g]) C (kX9_isIn l D cy (i1 := i3) (i2 := -9) (i3 := 9) hx_17) mX9_isIn u_1298 u_1299 4 [] [0, 1, 2, 3] rfl (by decide +kernel) rfl rfl rfl rfl (Nat.le_of_ble_eq_true rfl) (Nat.le_of_ble_eq_true rfl) (Nat.le_of_ble_eq_true rfl) (Nat.le_of_ble_eq_true rfl) (Nat.le_of_ble_eq_true rfl) dd_X9_top_1.2.2.2.2.2.2.2.2.2.2.2.2.2.1 rfl (fun _ _ hp => hp.2) (fun v_18 hp_20 => ?_)
      obtain ⟨rfl, -⟩ := hp_20
      refine xr_st (st' := [.int x_17, .ref g]) rfl ?_
      obtain ⟨r_22, hE_22, hR⟩ := yf_b hR
      have J_22 : X p l e (yR 3 0 0) s m args below meth c D A H0 5 Q [[(g, .inr (11, [.int x_12.2, .ref gw, .ref gB, .ref gK, .ref gU, .ref gS, .int gbe, .int gwo, .long gta, .ref gn, .int glr, .int glc, .int gti, .int ggo, .ref gR, .int gch, .ref gD]))], [(gw, .inr (10, [.int gwr, .int gwk, .int gwc, .int gwg, .int gws, .ref gwa, .ref gwb]))], [(gwb, .inl (cy 3, gwbn, .inr (.inr (.inr (.inr (yad gwbd))))))], xg_rows gwbd gwbn (cy 1) gwbk gwbG] 0 0 [(0, .ref g), (1, .int i1), (2, .int i2), (3, .int i3)] 64 [.int r_22, .ref g] := by
        refine xr_iconst (n := 65) (v := 2) C dd_X9_top_2.2.2.1 rfl rfl ?_
        obtain ⟨x_23, hx_23, hR⟩ := yf_b hR
        refine xr_callV (n := 68) (As := [.int r_22, .int 2]) (rest := []) C (kX9_refuse_r l D cy (g := g) (gth := x_12.2) (gw := gw) (gB := gB) (gK := gK) (gU := gU) (gS := gS) (gbe := gbe) (gwo := gwo) (gta := gta) (gn := gn) (glr := glr) (glc := glc) (gti := gti) (ggo := ggo) (gR := gR) (gch := gch) (gD := gD) (i1 := r_22) (i2 := 2) hx_23) mX9_refuse u_1305 u_1307 u_30 0 rfl rfl 4 [0] [1, 2, 3] rfl (by decide +kernel) rfl rfl rfl rfl (Nat.le_of_ble_eq_true rfl) (Nat.le_of_ble_eq_true rfl) (Nat.le_of_ble_eq_true rfl) (Nat.le_of_ble_eq_true rfl) (Nat.le_of_ble_eq_true rfl) dd_X9_top_2.2.2.2.1 rfl (fun v_24 u_25 hp_26 => ?_)
        obtain ⟨rfl, rfl⟩ := hp_26
        refine xr_perm C 4 [0, 1, 2, 3] [] [[(g, .inr (11, [.int x_23.2, .ref gw, .ref gB, .ref gK, .ref gU, .ref gS, .int gbe, .int gwo, .long gta, .ref gn, .int glr, .int glc, .int gti, .int ggo, .ref gR, .int gch, .ref gD]))], [(gw, .inr (10, [.int gwr, .int gwk, .int gwc, .int gwg, .int gws, .ref gwa, .ref gwb]))], [(gwb, .inl (cy 3, gwbn, .inr (.inr (.inr (.inr (yad gwbd))))))], xg_rows gwbd gwbn (cy 1) gwbk gwbG] rfl (by decide +kernel) rfl ?_
        refine xr_st (st' := [.int x_23.1]) rfl ?_
        refine xr_if_eq (tgt := 73) (n := 71) C dd_X9_top_2.2.2.2.2.1 rfl rfl (fun c_27 => ?_) (fun c_27 => ?_)
        · replace hR := yf_t c_27 hR
          refine xr_aload_n (n := 74) (j := 0) C dd_X9_top_2.2.2.2.2.2.2.2.1 rfl rfl ?_
          refine xr_get (n := 77) C 0 rfl rfl 1 (by decide) in_X9 u_1238 rfl (v := .ref gw) rfl dd_X9_top_2.2.2.2.2.2.2.2.2.1 rfl ?_
          refine xr_get (n := 80) C 1 rfl rfl 6 (by decide) in_X8 u_1213 rfl (v := .ref gwb) rfl dd_X9_top_2.2.2.2.2.2.2.2.2.2.1 rfl ?_
          refine xr_iload_n (n := 81) (j := 1) C dd_X9_top_2.2.2.2.2.2.2.2.2.2.2.1 rfl rfl ?_
          obtain ⟨g_28, hR⟩ := yf_g hR
          refine xr_aald (n := 82) C 2 0 rfl 3 rfl rfl g_28 rfl dd_X9_top_2.2.2.2.2.2.2.2.2.2.2.2.1 rfl ?_
          refine xr_iload_n (n := 83) (j := 2) C dd_X9_top_2.2.2.2.2.2.2.2.2.2.2.2.2.1 rfl rfl ?_
          obtain ⟨g_29, hR⟩ := yf_g hR
          refine xr_ialdg (n := 84) C 3 rfl i1.toNatClampNeg (ylt g_28) g_29 dd_X9_top_2.2.2.2.2.2.2.2.2.2.2.2.2.2.1 rfl ?_
          refine xr_istore (n := 86) C [(4, .int (gwbG i1.toNatClampNeg i2.toNatClampNeg)), (0, .ref g), (1, .int i1), (2, .int i2), (3, .int i3)] dd_X9_top_2.2.2.2.2.2.2.2.2.2.2.2.2.2.2.1 (by decide) rfl rfl ?_
          refine xr_aload_n (n := 87) (j := 1) C dd_X9_top_2.2.2.2.2.2.2.2.2.2.2.2.2.2.2.2.1 rfl rfl ?_
          refine xr_get (n := 90) C 0 rfl rfl 1 (by decide) in_X9 u_1238 rfl (v := .ref gw) rfl dd_X9_top_3.1 rfl ?_
          refine xr_get (n := 93) C 1 rfl rfl 6 (by decide) in_X8 u_1213 rfl (v := .ref gwb) rfl dd_X9_top_3.2.1 rfl ?_
          refine xr_iload_n (n := 94) (j := 2) C dd_X9_top_3.2.2.1 rfl rfl ?_
          obtain ⟨g_30, hR⟩ := yf_g hR
          refine xr_aald (n := 95) C 2 0 rfl 3 rfl rfl g_30 rfl dd_X9_top_3.2.2.2.1 rfl ?_
          refine xr_iload_n (n := 96) (j := 3) C dd_X9_top_3.2.2.2.2.1 rfl rfl ?_
          refine xr_iload_n (n := 97) (j := 4) C dd_X9_top_3.2.2.2.2.2.1 rfl rfl ?_
          obtain ⟨g_31, hR⟩ := yf_g hR
          refine xr_iastg (n := 98) C 3 rfl i1.toNatClampNeg (ylt g_30) g_31 [[(g, .inr (11, [.int x_23.2, .ref gw, .ref gB, .ref gK, .ref gU, .ref gS, .int gbe, .int gwo, .long gta, .ref gn, .int glr, .int glc, .int gti, .int ggo, .ref gR, .int gch, .ref gD]))], [(gw, .inr (10, [.int gwr, .int gwk, .int gwc, .int gwg, .int gws, .ref gwa, .ref gwb]))], [(gwb, .inl (cy 3, gwbn, .inr (.inr (.inr (.inr (yad gwbd))))))], xg_rows gwbd gwbn (cy 1) gwbk (upg gwbG i1.toNatClampNeg i2.toNatClampNeg i3)] rfl dd_X9_top_3.2.2.2.2.2.2.1 rfl ?_
          refine xr_iload (n := 100) (j := 0) C dd_X9_top_3.2.2.2.2.2.2.2.1 rfl rfl ?_
          obtain rfl := Option.some.inj hR
          exact ret (gwbG i1.toNatClampNeg i2.toNatClampNeg) ⟨rfl, rfl⟩ (Nat.le_of_ble_eq_true rfl) (Nat.le_of_ble_eq_true rfl) dd_X9_top_3.2.2.2.2.2.2.2.2.1
        · replace hR := yf_f c_27 hR
          refine xr_iconst (n := 72) (v := 0) C dd_X9_top_2.2.2.2.2.2.1 rfl rfl ?_
          obtain rfl := Option.some.inj hR
          exact ret 0 ⟨rfl, rfl⟩ (Nat.le_of_ble_eq_true rfl) (Nat.le_of_ble_eq_true rfl) dd_X9_top_2.2.2.2.2.2.2.1
      refine xr_if_ne (tgt := 63) (n := 59) C dd_X9_top_1.2.2.2.2.2.2.2.2.2.2.2.2.2.2.1 rfl rfl (fun c_32 => ?_) (fun c_32 => ?_)
      · replace hE_22 := yf_f c_32 hE_22
        refine xr_iconst (n := 64) (v := 0) C dd_X9_top_2.2.1 rfl rfl ?_
        have e_33 := Option.some.inj hE_22
        subst e_33
        exact J_22
      · replace hE_22 := yf_t c_32 hE_22
        refine xr_iconst (n := 60) (v := 1) C dd_X9_top_1.2.2.2.2.2.2.2.2.2.2.2.2.2.2.2.1 rfl rfl ?_
        refine xr_goto (tgt := 64) C dd_X9_top_2.1 rfl ?_
        have e_34 := Option.some.inj hE_22
        subst e_34
        exact J_22
  refine xr_if_eq (tgt := 35) (n := 18) C dd_X9_top_0.2.2.2.2.2.2.2.2.2.1 rfl rfl (fun c_35 => ?_) (fun c_35 => ?_)
  · replace hE_11 := yf_t c_35 hE_11
    refine xr_iconst (n := 36) (v := 1) C dd_X9_top_1.2.2.2.1 rfl rfl ?_
    refine xr_goto (tgt := 40) C dd_X9_top_1.2.2.2.2.1 rfl ?_
    have e_36 := Option.some.inj hE_11
    subst e_36
    exact J_11
  · replace hE_11 := yf_f c_35 hE_11
    refine xr_iload_n (n := 19) (j := 2) C dd_X9_top_0.2.2.2.2.2.2.2.2.2.2.1 rfl rfl ?_
    refine xr_iconst (n := 20) (v := 0) C dd_X9_top_0.2.2.2.2.2.2.2.2.2.2.2.1 rfl rfl ?_
    refine xr_aload_n (n := 21) (j := 0) C dd_X9_top_0.2.2.2.2.2.2.2.2.2.2.2.2.1 rfl rfl ?_
    refine xr_get (n := 24) C 0 rfl rfl 1 (by decide) in_X9 u_1238 rfl (v := .ref gw) rfl dd_X9_top_0.2.2.2.2.2.2.2.2.2.2.2.2.2.1 rfl ?_
    refine xr_get (n := 27) C 1 rfl rfl 2 (by decide) in_X8 u_1205 rfl (v := .int gwc) rfl dd_X9_top_0.2.2.2.2.2.2.2.2.2.2.2.2.2.2.1 rfl ?_
    refine xr_iconst (n := 28) (v := 1) C dd_X9_top_0.2.2.2.2.2.2.2.2.2.2.2.2.2.2.2.1 rfl rfl ?_
    refine xr_isub (n := 29) C dd_X9_top_1.1 rfl ?_
    obtain ⟨x_37, hx_37, hE_11⟩ := yf_b hE_11
    refine xr_callSp (n := 32) (As := [.int i2, .int 0, .int (gwc - 1)]) (rest := [.ref g]) C (kX9_isIn l D cy (i1 := i2) (i2 := 0) (i3 := gwc - 1) hx_37) mX9_isIn u_1298 u_1299 4 [] [0, 1, 2, 3] rfl (by decide +kernel) rfl rfl rfl rfl (Nat.le_of_ble_eq_true rfl) (Nat.le_of_ble_eq_true rfl) (Nat.le_of_ble_eq_true rfl) (Nat.le_of_ble_eq_true rfl) (Nat.le_of_ble_eq_true rfl) dd_X9_top_1.2.1 rfl (fun _ _ hp => hp.2) (fun v_38 hp_40 => ?_)
    obtain ⟨rfl, -⟩ := hp_40
    refine xr_st (st' := [.int x_37, .ref g]) rfl ?_
    refine xr_if_ne (tgt := 39) (n := 35) C dd_X9_top_1.2.2.1 rfl rfl (fun c_41 => ?_) (fun c_41 => ?_)
    · replace hE_11 := yf_f c_41 hE_11
      refine xr_iconst (n := 40) (v := 0) C dd_X9_top_1.2.2.2.2.2.1 rfl rfl ?_
      have e_42 := Option.some.inj hE_11
      subst e_42
      exact J_11
    · replace hE_11 := yf_t c_41 hE_11
      refine xr_iconst (n := 36) (v := 1) C dd_X9_top_1.2.2.2.1 rfl rfl ?_
      refine xr_goto (tgt := 40) C dd_X9_top_1.2.2.2.2.1 rfl ?_
      have e_43 := Option.some.inj hE_11
      subst e_43
      exact J_11
