theorem u_1390 : Cond.code yX9_tiles cX9_tiles 2 (some .int) ∈ yU := yu_tables_1_6 134 (by decide +kernel) (by decide +kernel)
theorem u_1398 : Cond.methodLink RX9 97 yJ9_min_7cf53 ∈ yU := yu_tables_1_6 142 (by decide +kernel) (by decide +kernel)
theorem u_1397 : Cond.code yX9_size cX9_size 3 (some .int) ∈ yU := yu_tables_1_6 141 (by decide +kernel) (by decide +kernel)
theorem u_1383 : Cond.methodLink RX9 103 yJ6_bitCount_0f7a4 ∈ yU := yu_tables_1_6 127 (by decide +kernel) (by decide +kernel)
theorem u_1384 : Cond.methodLink RX9 106 yX8_rows ∈ yU := yu_tables_1_6 128 (by decide +kernel) (by decide +kernel)
theorem u_1385 : Cond.instanceMethod yX8_rows ∈ yU := yu_tables_1_6 129 (by decide +kernel) (by decide +kernel)
theorem u_1386 : Cond.selects RX8 yX8_rows yX8_rows ∈ yU := yu_tables_1_6 130 (by decide +kernel) (by decide +kernel)
theorem u_1388 : Cond.methodLink RX9 110 yX9_tiles ∈ yU := yu_tables_1_6 132 (by decide +kernel) (by decide +kernel)
theorem u_1389 : Cond.static yX9_tiles ∈ yU := yu_tables_1_6 133 (by decide +kernel) (by decide +kernel)
theorem u_1391 : Cond.methodLink RX9 113 yX8_columns ∈ yU := yu_tables_1_6 135 (by decide +kernel) (by decide +kernel)
theorem u_1392 : Cond.instanceMethod yX8_columns ∈ yU := yu_tables_1_6 136 (by decide +kernel) (by decide +kernel)
theorem u_1393 : Cond.selects RX8 yX8_columns yX8_columns ∈ yU := yu_tables_1_6 137 (by decide +kernel) (by decide +kernel)
theorem u_1395 : Cond.methodLink RX9 116 yX9_size ∈ yU := yu_tables_1_6 139 (by decide +kernel) (by decide +kernel)
theorem u_1396 : Cond.static yX9_size ∈ yU := yu_tables_1_6 140 (by decide +kernel) (by decide +kernel)
theorem u_1382 : Cond.code yX9_beatsOf cX9_beatsOf 9 (some .int) ∈ yU := yu_tables_1_6 126 (by decide +kernel) (by decide +kernel)
theorem u_1341 : Cond.code yX9_count cX9_count 11 (some .int) ∈ yU := yu_tables_1_6 85 (by decide +kernel) (by decide +kernel)
theorem u_1337 : Cond.code yX9_isNoCell cX9_isNoCell 2 (some .boolean) ∈ yU := yu_tables_1_6 81 (by decide +kernel) (by decide +kernel)
theorem dd_X9_tiles_0 : dk_R cX9_tiles [(0, .iload_n 0, 1), (1, .iload_n 1, 1), (2, .iadd, 1), (3, .iconst 1, 1), (4, .isub, 1), (5, .iload_n 1, 1), (6, .idiv, 1), (7, .ireturn, 1)] := dk_use _ _ (by decide +kernel)
def fX9_tiles (i1 : Int32) (i2 : Int32) : Option (Int32) := (if ¬ i2 = 0 then some (((i1 + i2) - 1) / i2) else none)
abbrev hX9_tiles : Cond := .code yX9_tiles cX9_tiles 2 (some .int)
theorem mX9_tiles : yM yX9_tiles hX9_tiles 2 := ⟨u_1390, u_64, by decide +kernel, by decide +kernel, by decide +kernel⟩
set_option maxHeartbeats 4000000 in
set_option maxRecDepth 100000 in
theorem kX9_tiles (l : Launch) (D : va_G) (cy : Nat → ClassId) (i1 : Int32) (i2 : Int32) {res : Int32} (hR : fX9_tiles i1 i2 = some res) : YM l D cy yX9_tiles hX9_tiles 1 0 0 [.int i1, .int i2] [] (fun v u => v = some (.int res) ∧ u = []) := by
  unfold fX9_tiles at hR
  refine YM.ofI (cc := cX9_tiles) (maxL := 2) (ret := (some .int)) (by decide +kernel) rfl (Nat.le_of_ble_eq_true rfl) [(0, .int i1), (1, .int i2)] rfl rfl (fun p e s m args below meth c A H0 Q C hnm ret => ?_)
  refine xr_iload_n (n := 1) (j := 0) C dd_X9_tiles_0.1 rfl rfl ?_
  refine xr_iload_n (n := 2) (j := 1) C dd_X9_tiles_0.2.1 rfl rfl ?_
  refine xr_iadd (n := 3) C dd_X9_tiles_0.2.2.1 rfl ?_
  refine xr_iconst (n := 4) (v := 1) C dd_X9_tiles_0.2.2.2.1 rfl rfl ?_
  refine xr_isub (n := 5) C dd_X9_tiles_0.2.2.2.2.1 rfl ?_
  refine xr_iload_n (n := 6) (j := 1) C dd_X9_tiles_0.2.2.2.2.2.1 rfl rfl ?_
  obtain ⟨g_1, hR⟩ := yf_g hR
  refine xr_idiv (n := 7) C dd_X9_tiles_0.2.2.2.2.2.2.1 g_1 rfl ?_
  obtain rfl := Option.some.inj hR
  exact ret (((i1 + i2) - 1) / i2) ⟨rfl, rfl⟩ (Nat.le_of_ble_eq_true rfl) (Nat.le_of_ble_eq_true rfl) dd_X9_tiles_0.2.2.2.2.2.2.2.1
theorem dd_X9_size_0 : dk_R cX9_size [(0, .iload_n 1, 1), (1, .iload_n 0, 1), (2, .iload_n 2, 1), (3, .iload_n 1, 1), (4, .imul, 1), (5, .isub, 1), (6, .invokestatic 97, 3), (9, .ireturn, 1)] := dk_use _ _ (by decide +kernel)
def fX9_size (i1 : Int32) (i2 : Int32) (i3 : Int32) : Option (Int32) := some (xn_min i2 (i1 - (i3 * i2)))
abbrev hX9_size : Cond := .code yX9_size cX9_size 3 (some .int)
theorem mX9_size : yM yX9_size hX9_size 3 := ⟨u_1397, u_64, by decide +kernel, by decide +kernel, by decide +kernel⟩
set_option maxHeartbeats 4000000 in
set_option maxRecDepth 100000 in
theorem kX9_size (l : Launch) (D : va_G) (cy : Nat → ClassId) (i1 : Int32) (i2 : Int32) (i3 : Int32) {res : Int32} (hR : fX9_size i1 i2 i3 = some res) : YM l D cy yX9_size hX9_size 1 0 0 [.int i1, .int i2, .int i3] [] (fun v u => v = some (.int res) ∧ u = []) := by
  unfold fX9_size at hR
  refine YM.ofI (cc := cX9_size) (maxL := 3) (ret := (some .int)) (by decide +kernel) rfl (Nat.le_of_ble_eq_true rfl) [(0, .int i1), (1, .int i2), (2, .int i3)] rfl rfl (fun p e s m args below meth c A H0 Q C hnm ret => ?_)
  refine xr_iload_n (n := 1) (j := 1) C dd_X9_size_0.1 rfl rfl ?_
  refine xr_iload_n (n := 2) (j := 0) C dd_X9_size_0.2.1 rfl rfl ?_
  refine xr_iload_n (n := 3) (j := 2) C dd_X9_size_0.2.2.1 rfl rfl ?_
  refine xr_iload_n (n := 4) (j := 1) C dd_X9_size_0.2.2.2.1 rfl rfl ?_
  refine xr_imul (n := 5) C dd_X9_size_0.2.2.2.2.1 rfl ?_
  refine xr_isub (n := 6) C dd_X9_size_0.2.2.2.2.2.1 rfl ?_
  refine xr_mmin (n := 9) C u_1398 u_438 u_74 u_439 (Nat.le_of_ble_eq_true rfl) (Nat.le_of_ble_eq_true rfl) (Nat.le_of_ble_eq_true rfl) (Nat.le_of_ble_eq_true rfl) dd_X9_size_0.2.2.2.2.2.2.1 rfl ?_
  obtain rfl := Option.some.inj hR
  exact ret (xn_min i2 (i1 - (i3 * i2))) ⟨rfl, rfl⟩ (Nat.le_of_ble_eq_true rfl) (Nat.le_of_ble_eq_true rfl) dd_X9_size_0.2.2.2.2.2.2.2.1
theorem dd_X9_beatsOf_0 : dk_R cX9_beatsOf [(0, .iload_n 1, 1), (1, .invokestatic 103, 3), (4, .istore 4, 2), (6, .iload_n 2, 1), (7, .invokestatic 103, 3), (10, .istore 5, 2), (12, .iconst 0, 1), (13, .istore 6, 2), (15, .iconst 0, 1), (16, .istore 7, 2), (18, .iload 7, 2), (20, .aload_n 0, 1), (21, .invokevirtual 106, 3), (24, .iload 4, 2), (26, .invokestatic 110, 3), (29, .if_icmp .ge 64, 3)] := dk_use _ _ (by decide +kernel)
theorem dd_X9_beatsOf_1 : dk_R cX9_beatsOf [(32, .iconst 0, 1), (33, .istore 8, 2), (35, .iload 8, 2), (37, .aload_n 0, 1), (38, .invokevirtual 113, 3), (41, .iload 5, 2), (43, .invokestatic 110, 3), (46, .if_icmp .ge 41, 3), (49, .iload 6, 2), (51, .aload_n 0, 1), (52, .invokevirtual 106, 3), (55, .iload 4, 2), (57, .iload 7, 2), (59, .invokestatic 116, 3), (62, .aload_n 0, 1), (63, .invokevirtual 113, 3)] := dk_use _ _ (by decide +kernel)
theorem dd_X9_beatsOf_2 : dk_R cX9_beatsOf [(66, .iload 5, 2), (68, .iload 8, 2), (70, .invokestatic 116, 3), (73, .iadd, 1), (74, .iload_n 3, 1), (75, .iadd, 1), (76, .iconst 1, 1), (77, .isub, 1), (78, .iadd, 1), (79, .istore 6, 2), (81, .iinc 8 1, 3), (84, .goto (-49), 3), (87, .iinc 7 1, 3), (90, .goto (-72), 3), (93, .iload 6, 2), (95, .ireturn, 1)] := dk_use _ _ (by decide +kernel)
def fX9_beatsOf (wr : Int32) (wc : Int32) (ws : Int32) (i1 : Int32) (i2 : Int32) (i3 : Int32) : Option (Int32) := ((fJ6_bitCount_0f7a4 i1).bind fun x_1 => ((fJ6_bitCount_0f7a4 i2).bind fun x_5 => ((wl (S := Int32 × Int32) (B := Int32 × Int32) (fun s_9 => ((fX8_rows wr ws).bind fun x_10 => ((fX9_tiles x_10 x_1).bind fun x_14 => (if x_14 ≤ s_9.2 then some (.inr (s_9.1, s_9.2)) else ((wl (S := Int32 × Int32) (B := Int32 × Int32) (fun s_20 => ((fX8_columns wc ws).bind fun x_21 => ((fX9_tiles x_21 x_5).bind fun x_25 => (if x_25 ≤ s_20.2 then some (.inr (s_20.1, s_20.2)) else ((fX8_rows wr ws).bind fun x_31 => ((fX9_size x_31 x_1 s_9.2).bind fun x_35 => ((fX8_columns wc ws).bind fun x_39 => ((fX9_size x_39 x_5 s_20.2).bind fun x_43 => some (.inl (s_20.1 + (((x_35 + x_43) + i3) - 1), s_20.2 + 1)))))))))) yFuel (s_9.1, 0)).bind fun b_20 => some (.inl (b_20.1, s_9.2 + 1))))))) yFuel (0, 0)).bind fun b_9 => some b_9.1)))
abbrev hX9_beatsOf : Cond := .code yX9_beatsOf cX9_beatsOf 9 (some .int)
theorem mX9_beatsOf : yM yX9_beatsOf hX9_beatsOf 4 := ⟨u_1382, u_64, by decide +kernel, by decide +kernel, by decide +kernel⟩
set_option maxHeartbeats 4000000 in
set_option maxRecDepth 100000 in
theorem kX9_beatsOf (l : Launch) (D : va_G) (cy : Nat → ClassId) (w : Nat) (wr : Int32) (wk : Int32) (wc : Int32) (wg : Int32) (ws : Int32) (wa : Nat) (wb : Nat) (i1 : Int32) (i2 : Int32) (i3 : Int32) {res : Int32} (hR : fX9_beatsOf wr wc ws i1 i2 i3 = some res) : YM l D cy yX9_beatsOf hX9_beatsOf 3 0 0 [.ref w, .int i1, .int i2, .int i3] [[(w, .inr (10, [.int wr, .int wk, .int wc, .int wg, .int ws, .ref wa, .ref wb]))]] (fun v u => v = some (.int res) ∧ u = [[(w, .inr (10, [.int wr, .int wk, .int wc, .int wg, .int ws, .ref wa, .ref wb]))]]) := by
  unfold fX9_beatsOf at hR
  refine YM.ofI (cc := cX9_beatsOf) (maxL := 9) (ret := (some .int)) (by decide +kernel) rfl (Nat.le_of_ble_eq_true rfl) [(0, .ref w), (1, .int i1), (2, .int i2), (3, .int i3)] rfl rfl (fun p e s m args below meth c A H0 Q C hnm ret => ?_)
  refine xr_iload_n (n := 1) (j := 1) C dd_X9_beatsOf_0.1 rfl rfl ?_
  obtain ⟨x_1, hx_1, hR⟩ := yf_b hR
  refine xr_callSp (n := 4) (As := [.int i1]) (rest := []) C (kJ6_bitCount_0f7a4 l D cy (i1 := i1) hx_1) mJ6_bitCount_0f7a4 u_1383 u_349 1 [] [0] rfl (by decide +kernel) rfl rfl rfl rfl (Nat.le_of_ble_eq_true rfl) (Nat.le_of_ble_eq_true rfl) (Nat.le_of_ble_eq_true rfl) (Nat.le_of_ble_eq_true rfl) (Nat.le_of_ble_eq_true rfl) dd_X9_beatsOf_0.2.1 rfl (fun _ _ hp => hp.2) (fun v_2 hp_4 => ?_)
  obtain ⟨rfl, -⟩ := hp_4
  refine xr_st (st' := [.int x_1]) rfl ?_
  refine xr_istore (n := 6) C [(4, .int x_1), (0, .ref w), (1, .int i1), (2, .int i2), (3, .int i3)] dd_X9_beatsOf_0.2.2.1 (by decide) rfl rfl ?_
  refine xr_iload_n (n := 7) (j := 3) C dd_X9_beatsOf_0.2.2.2.1 rfl rfl ?_
  obtain ⟨x_5, hx_5, hR⟩ := yf_b hR
  refine xr_callSp (n := 10) (As := [.int i2]) (rest := []) C (kJ6_bitCount_0f7a4 l D cy (i1 := i2) hx_5) mJ6_bitCount_0f7a4 u_1383 u_349 1 [] [0] rfl (by decide +kernel) rfl rfl rfl rfl (Nat.le_of_ble_eq_true rfl) (Nat.le_of_ble_eq_true rfl) (Nat.le_of_ble_eq_true rfl) (Nat.le_of_ble_eq_true rfl) (Nat.le_of_ble_eq_true rfl) dd_X9_beatsOf_0.2.2.2.2.1 rfl (fun _ _ hp => hp.2) (fun v_6 hp_8 => ?_)
  obtain ⟨rfl, -⟩ := hp_8
  refine xr_st (st' := [.int x_5]) rfl ?_
  refine xr_istore (n := 12) C [(5, .int x_5), (4, .int x_1), (0, .ref w), (1, .int i1), (2, .int i2), (3, .int i3)] dd_X9_beatsOf_0.2.2.2.2.2.1 (by decide) rfl rfl ?_
  refine xr_iconst (n := 13) (v := 0) C dd_X9_beatsOf_0.2.2.2.2.2.2.1 rfl rfl ?_
  refine xr_istore (n := 15) C [(6, .int 0), (5, .int x_5), (4, .int x_1), (0, .ref w), (1, .int i1), (2, .int i2), (3, .int i3)] dd_X9_beatsOf_0.2.2.2.2.2.2.2.1 (by decide) rfl rfl ?_
  refine xr_iconst (n := 16) (v := 0) C dd_X9_beatsOf_0.2.2.2.2.2.2.2.2.1 rfl rfl ?_
  refine xr_istore (n := 18) C [(7, .int 0), (6, .int 0), (5, .int x_5), (4, .int x_1), (0, .ref w), (1, .int i1), (2, .int i2), (3, .int i3)] dd_X9_beatsOf_0.2.2.2.2.2.2.2.2.2.1 (by decide) rfl rfl ?_
  refine xr_lv (lv' := [(0, .ref w), (3, .int i3), (4, .int x_1), (5, .int x_5), (6, .int 0), (7, .int 0)]) [4, 7, 3, 2, 1, 0] rfl ?_
  obtain ⟨b_9, hb_9, hR⟩ := yf_b hR
  have K_9 : X p l e (yR 3 0 0) s m args below meth c D A H0 9 Q [[(w, .inr (10, [.int wr, .int wk, .int wc, .int wg, .int ws, .ref wa, .ref wb]))]] 0 0 [(6, .int b_9.1)] 93 [] := by
    refine xr_iload (n := 95) (j := 0) C dd_X9_beatsOf_2.2.2.2.2.2.2.2.2.2.2.2.2.2.2.1 rfl rfl ?_
    obtain rfl := Option.some.inj hR
    exact ret b_9.1 ⟨rfl, rfl⟩ (Nat.le_of_ble_eq_true rfl) (Nat.le_of_ble_eq_true rfl) dd_X9_beatsOf_2.2.2.2.2.2.2.2.2.2.2.2.2.2.2.2.1
  refine y_loop (P := fun (s_9 : Int32 × Int32) => X p l e (yR 3 0 0) s m args below meth c D A H0 9 Q [[(w, .inr (10, [.int wr, .int wk, .int wc, .int wg, .int ws, .ref wa, .ref wb]))]] 0 0 [(0, .ref w), (3, .int i3), (4, .int x_1), (5, .int x_5), (6, .int s_9.1), (7, .int s_9.2)] 18 []) ?_ _ (0, 0) hb_9
  intro s_9 o_9 ho_9 hk_9 hx_9
  refine xr_iload (n := 20) (j := 5) C dd_X9_beatsOf_0.2.2.2.2.2.2.2.2.2.2.1 rfl rfl ?_
  refine xr_aload_n (n := 21) (j := 0) C dd_X9_beatsOf_0.2.2.2.2.2.2.2.2.2.2.2.1 rfl rfl ?_
  obtain ⟨x_10, hx_10, ho_9⟩ := yf_b ho_9
  refine xr_callVp (n := 24) (As := []) (rest := [.int s_9.2]) C (kX8_rows l D cy (w := w) (wr := wr) (wk := wk) (wc := wc) (wg := wg) (ws := ws) (wa := wa) (wb := wb) hx_10) mX8_rows u_1384 u_1385 u_1386 0 rfl rfl 1 [0] [] rfl (by decide +kernel) rfl rfl rfl rfl (Nat.le_of_ble_eq_true rfl) (Nat.le_of_ble_eq_true rfl) (Nat.le_of_ble_eq_true rfl) (Nat.le_of_ble_eq_true rfl) (Nat.le_of_ble_eq_true rfl) dd_X9_beatsOf_0.2.2.2.2.2.2.2.2.2.2.2.2.1 rfl (fun _ _ hp => hp.2) (fun v_11 hp_13 => ?_)
  obtain ⟨rfl, -⟩ := hp_13
  refine xr_st (st' := [.int x_10, .int s_9.2]) rfl ?_
  refine xr_iload (n := 26) (j := 2) C dd_X9_beatsOf_0.2.2.2.2.2.2.2.2.2.2.2.2.2.1 rfl rfl ?_
  obtain ⟨x_14, hx_14, ho_9⟩ := yf_b ho_9
  refine xr_callSp (n := 29) (As := [.int x_10, .int x_1]) (rest := [.int s_9.2]) C (kX9_tiles l D cy (i1 := x_10) (i2 := x_1) hx_14) mX9_tiles u_1388 u_1389 1 [] [0] rfl (by decide +kernel) rfl rfl rfl rfl (Nat.le_of_ble_eq_true rfl) (Nat.le_of_ble_eq_true rfl) (Nat.le_of_ble_eq_true rfl) (Nat.le_of_ble_eq_true rfl) (Nat.le_of_ble_eq_true rfl) dd_X9_beatsOf_0.2.2.2.2.2.2.2.2.2.2.2.2.2.2.1 rfl (fun _ _ hp => hp.2) (fun v_15 hp_17 => ?_)
  obtain ⟨rfl, -⟩ := hp_17
  refine xr_st (st' := [.int x_14, .int s_9.2]) rfl ?_
  refine xr_icmp_ge (tgt := 93) (n := 32) C dd_X9_beatsOf_0.2.2.2.2.2.2.2.2.2.2.2.2.2.2.2.1 rfl rfl (fun c_18 => ?_) (fun c_18 => ?_)
  · replace ho_9 := yf_t c_18 ho_9
    refine xr_lv (lv' := [(6, .int s_9.1)]) [4] rfl ?_
    have e_19 := hx_9 _ (Option.some.inj ho_9).symm
    subst e_19
    exact K_9
  · replace ho_9 := yf_f c_18 ho_9
    refine xr_iconst (n := 33) (v := 0) C dd_X9_beatsOf_1.1 rfl rfl ?_
    refine xr_istore (n := 35) C [(8, .int 0), (0, .ref w), (3, .int i3), (4, .int x_1), (5, .int x_5), (6, .int s_9.1), (7, .int s_9.2)] dd_X9_beatsOf_1.2.1 (by decide) rfl rfl ?_
    refine xr_lv (lv' := [(0, .ref w), (3, .int i3), (4, .int x_1), (5, .int x_5), (6, .int s_9.1), (7, .int s_9.2), (8, .int 0)]) [1, 2, 3, 4, 5, 6, 0] rfl ?_
    obtain ⟨b_20, hb_20, ho_9⟩ := yf_b ho_9
    have K_20 : X p l e (yR 3 0 0) s m args below meth c D A H0 9 Q [[(w, .inr (10, [.int wr, .int wk, .int wc, .int wg, .int ws, .ref wa, .ref wb]))]] 0 0 [(0, .ref w), (3, .int i3), (4, .int x_1), (5, .int x_5), (6, .int b_20.1), (7, .int s_9.2)] 87 [] := by
      refine xr_iinc (j := 5) (v := s_9.2 + 1) (n := 90) C [(7, .int (s_9.2 + 1)), (0, .ref w), (3, .int i3), (4, .int x_1), (5, .int x_5), (6, .int b_20.1)] dd_X9_beatsOf_2.2.2.2.2.2.2.2.2.2.2.2.2.1 rfl rfl (by decide) rfl rfl ?_
      refine xr_goto (tgt := 18) C dd_X9_beatsOf_2.2.2.2.2.2.2.2.2.2.2.2.2.2.1 rfl ?_
      refine xr_lv (lv' := [(0, .ref w), (3, .int i3), (4, .int x_1), (5, .int x_5), (6, .int b_20.1), (7, .int (s_9.2 + 1))]) [1, 2, 3, 4, 5, 0] rfl ?_
      exact hk_9 (b_20.1, s_9.2 + 1) (Option.some.inj ho_9).symm
    refine y_loop (P := fun (s_20 : Int32 × Int32) => X p l e (yR 3 0 0) s m args below meth c D A H0 9 Q [[(w, .inr (10, [.int wr, .int wk, .int wc, .int wg, .int ws, .ref wa, .ref wb]))]] 0 0 [(0, .ref w), (3, .int i3), (4, .int x_1), (5, .int x_5), (6, .int s_20.1), (7, .int s_9.2), (8, .int s_20.2)] 35 []) ?_ _ (s_9.1, 0) hb_20
    intro s_20 o_20 ho_20 hk_20 hx_20
    refine xr_iload (n := 37) (j := 6) C dd_X9_beatsOf_1.2.2.1 rfl rfl ?_
    refine xr_aload_n (n := 38) (j := 0) C dd_X9_beatsOf_1.2.2.2.1 rfl rfl ?_
    obtain ⟨x_21, hx_21, ho_20⟩ := yf_b ho_20
    refine xr_callVp (n := 41) (As := []) (rest := [.int s_20.2]) C (kX8_columns l D cy (w := w) (wr := wr) (wk := wk) (wc := wc) (wg := wg) (ws := ws) (wa := wa) (wb := wb) hx_21) mX8_columns u_1391 u_1392 u_1393 0 rfl rfl 1 [0] [] rfl (by decide +kernel) rfl rfl rfl rfl (Nat.le_of_ble_eq_true rfl) (Nat.le_of_ble_eq_true rfl) (Nat.le_of_ble_eq_true rfl) (Nat.le_of_ble_eq_true rfl) (Nat.le_of_ble_eq_true rfl) dd_X9_beatsOf_1.2.2.2.2.1 rfl (fun _ _ hp => hp.2) (fun v_22 hp_24 => ?_)
    obtain ⟨rfl, -⟩ := hp_24
    refine xr_st (st' := [.int x_21, .int s_20.2]) rfl ?_
    refine xr_iload (n := 43) (j := 3) C dd_X9_beatsOf_1.2.2.2.2.2.1 rfl rfl ?_
    obtain ⟨x_25, hx_25, ho_20⟩ := yf_b ho_20
    refine xr_callSp (n := 46) (As := [.int x_21, .int x_5]) (rest := [.int s_20.2]) C (kX9_tiles l D cy (i1 := x_21) (i2 := x_5) hx_25) mX9_tiles u_1388 u_1389 1 [] [0] rfl (by decide +kernel) rfl rfl rfl rfl (Nat.le_of_ble_eq_true rfl) (Nat.le_of_ble_eq_true rfl) (Nat.le_of_ble_eq_true rfl) (Nat.le_of_ble_eq_true rfl) (Nat.le_of_ble_eq_true rfl) dd_X9_beatsOf_1.2.2.2.2.2.2.1 rfl (fun _ _ hp => hp.2) (fun v_26 hp_28 => ?_)
    obtain ⟨rfl, -⟩ := hp_28
    refine xr_st (st' := [.int x_25, .int s_20.2]) rfl ?_
    refine xr_icmp_ge (tgt := 87) (n := 49) C dd_X9_beatsOf_1.2.2.2.2.2.2.2.1 rfl rfl (fun c_29 => ?_) (fun c_29 => ?_)
    · replace ho_20 := yf_t c_29 ho_20
      refine xr_lv (lv' := [(0, .ref w), (3, .int i3), (4, .int x_1), (5, .int x_5), (6, .int s_20.1), (7, .int s_9.2)]) [0, 1, 2, 3, 4, 5] rfl ?_
      have e_30 := hx_20 _ (Option.some.inj ho_20).symm
      subst e_30
      exact K_20
    · replace ho_20 := yf_f c_29 ho_20
      refine xr_iload (n := 51) (j := 4) C dd_X9_beatsOf_1.2.2.2.2.2.2.2.2.1 rfl rfl ?_
      refine xr_aload_n (n := 52) (j := 0) C dd_X9_beatsOf_1.2.2.2.2.2.2.2.2.2.1 rfl rfl ?_
      obtain ⟨x_31, hx_31, ho_20⟩ := yf_b ho_20
      refine xr_callVp (n := 55) (As := []) (rest := [.int s_20.1]) C (kX8_rows l D cy (w := w) (wr := wr) (wk := wk) (wc := wc) (wg := wg) (ws := ws) (wa := wa) (wb := wb) hx_31) mX8_rows u_1384 u_1385 u_1386 0 rfl rfl 1 [0] [] rfl (by decide +kernel) rfl rfl rfl rfl (Nat.le_of_ble_eq_true rfl) (Nat.le_of_ble_eq_true rfl) (Nat.le_of_ble_eq_true rfl) (Nat.le_of_ble_eq_true rfl) (Nat.le_of_ble_eq_true rfl) dd_X9_beatsOf_1.2.2.2.2.2.2.2.2.2.2.1 rfl (fun _ _ hp => hp.2) (fun v_32 hp_34 => ?_)
      obtain ⟨rfl, -⟩ := hp_34
      refine xr_st (st' := [.int x_31, .int s_20.1]) rfl ?_
      refine xr_iload (n := 57) (j := 2) C dd_X9_beatsOf_1.2.2.2.2.2.2.2.2.2.2.2.1 rfl rfl ?_
      refine xr_iload (n := 59) (j := 5) C dd_X9_beatsOf_1.2.2.2.2.2.2.2.2.2.2.2.2.1 rfl rfl ?_
      obtain ⟨x_35, hx_35, ho_20⟩ := yf_b ho_20
      refine xr_callSp (n := 62) (As := [.int x_31, .int x_1, .int s_9.2]) (rest := [.int s_20.1]) C (kX9_size l D cy (i1 := x_31) (i2 := x_1) (i3 := s_9.2) hx_35) mX9_size u_1395 u_1396 1 [] [0] rfl (by decide +kernel) rfl rfl rfl rfl (Nat.le_of_ble_eq_true rfl) (Nat.le_of_ble_eq_true rfl) (Nat.le_of_ble_eq_true rfl) (Nat.le_of_ble_eq_true rfl) (Nat.le_of_ble_eq_true rfl) dd_X9_beatsOf_1.2.2.2.2.2.2.2.2.2.2.2.2.2.1 rfl (fun _ _ hp => hp.2) (fun v_36 hp_38 => ?_)
      obtain ⟨rfl, -⟩ := hp_38
      refine xr_st (st' := [.int x_35, .int s_20.1]) rfl ?_
      refine xr_aload_n (n := 63) (j := 0) C dd_X9_beatsOf_1.2.2.2.2.2.2.2.2.2.2.2.2.2.2.1 rfl rfl ?_
      obtain ⟨x_39, hx_39, ho_20⟩ := yf_b ho_20
      refine xr_callVp (n := 66) (As := []) (rest := [.int x_35, .int s_20.1]) C (kX8_columns l D cy (w := w) (wr := wr) (wk := wk) (wc := wc) (wg := wg) (ws := ws) (wa := wa) (wb := wb) hx_39) mX8_columns u_1391 u_1392 u_1393 0 rfl rfl 1 [0] [] rfl (by decide +kernel) rfl rfl rfl rfl (Nat.le_of_ble_eq_true rfl) (Nat.le_of_ble_eq_true rfl) (Nat.le_of_ble_eq_true rfl) (Nat.le_of_ble_eq_true rfl) (Nat.le_of_ble_eq_true rfl) dd_X9_beatsOf_1.2.2.2.2.2.2.2.2.2.2.2.2.2.2.2.1 rfl (fun _ _ hp => hp.2) (fun v_40 hp_42 => ?_)
      obtain ⟨rfl, -⟩ := hp_42
      refine xr_st (st' := [.int x_39, .int x_35, .int s_20.1]) rfl ?_
      refine xr_iload (n := 68) (j := 3) C dd_X9_beatsOf_2.1 rfl rfl ?_
      refine xr_iload (n := 70) (j := 6) C dd_X9_beatsOf_2.2.1 rfl rfl ?_
      obtain ⟨x_43, hx_43, ho_20⟩ := yf_b ho_20
      refine xr_callSp (n := 73) (As := [.int x_39, .int x_5, .int s_20.2]) (rest := [.int x_35, .int s_20.1]) C (kX9_size l D cy (i1 := x_39) (i2 := x_5) (i3 := s_20.2) hx_43) mX9_size u_1395 u_1396 1 [] [0] rfl (by decide +kernel) rfl rfl rfl rfl (Nat.le_of_ble_eq_true rfl) (Nat.le_of_ble_eq_true rfl) (Nat.le_of_ble_eq_true rfl) (Nat.le_of_ble_eq_true rfl) (Nat.le_of_ble_eq_true rfl) dd_X9_beatsOf_2.2.2.1 rfl (fun _ _ hp => hp.2) (fun v_44 hp_46 => ?_)
      obtain ⟨rfl, -⟩ := hp_46
      refine xr_st (st' := [.int x_43, .int x_35, .int s_20.1]) rfl ?_
      refine xr_iadd (n := 74) C dd_X9_beatsOf_2.2.2.2.1 rfl ?_
      refine xr_iload_n (n := 75) (j := 1) C dd_X9_beatsOf_2.2.2.2.2.1 rfl rfl ?_
      refine xr_iadd (n := 76) C dd_X9_beatsOf_2.2.2.2.2.2.1 rfl ?_
      refine xr_iconst (n := 77) (v := 1) C dd_X9_beatsOf_2.2.2.2.2.2.2.1 rfl rfl ?_
      refine xr_isub (n := 78) C dd_X9_beatsOf_2.2.2.2.2.2.2.2.1 rfl ?_
      refine xr_iadd (n := 79) C dd_X9_beatsOf_2.2.2.2.2.2.2.2.2.1 rfl ?_
      refine xr_istore (n := 81) C [(6, .int (s_20.1 + (((x_35 + x_43) + i3) - 1))), (0, .ref w), (3, .int i3), (4, .int x_1), (5, .int x_5), (7, .int s_9.2), (8, .int s_20.2)] dd_X9_beatsOf_2.2.2.2.2.2.2.2.2.2.1 (by decide) rfl rfl ?_
      refine xr_iinc (j := 6) (v := s_20.2 + 1) (n := 84) C [(8, .int (s_20.2 + 1)), (6, .int (s_20.1 + (((x_35 + x_43) + i3) - 1))), (0, .ref w), (3, .int i3), (4, .int x_1), (5, .int x_5), (7, .int s_9.2)] dd_X9_beatsOf_2.2.2.2.2.2.2.2.2.2.2.1 rfl rfl (by decide) rfl rfl ?_
      refine xr_goto (tgt := 35) C dd_X9_beatsOf_2.2.2.2.2.2.2.2.2.2.2.2.1 rfl ?_
      refine xr_lv (lv' := [(0, .ref w), (3, .int i3), (4, .int x_1), (5, .int x_5), (6, .int (s_20.1 + (((x_35 + x_43) + i3) - 1))), (7, .int s_9.2), (8, .int (s_20.2 + 1))]) [2, 3, 4, 5, 1, 6, 0] rfl ?_
      exact hk_20 (s_20.1 + (((x_35 + x_43) + i3) - 1), s_20.2 + 1) (Option.some.inj ho_20).symm
theorem dd_X9_count_0 : dk_R cX9_count [(0, .iconst 0, 1), (1, .istore_n 2, 1), (2, .aload_n 1, 1), (3, .astore_n 3, 1), (4, .aload_n 3, 1), (5, .arraylength, 1), (6, .istore 4, 2), (8, .iconst 0, 1), (9, .istore 5, 2), (11, .iload 5, 2), (13, .iload 4, 2), (15, .if_icmp .ge 55, 3), (18, .aload_n 3, 1), (19, .iload 5, 2), (21, .aaload, 1), (22, .astore 6, 2)] := dk_use _ _ (by decide +kernel)
theorem dd_X9_count_1 : dk_R cX9_count [(24, .aload 6, 2), (26, .astore 7, 2), (28, .aload 7, 2), (30, .arraylength, 1), (31, .istore 8, 2), (33, .iconst 0, 1), (34, .istore 9, 2), (36, .iload 9, 2), (38, .iload 8, 2), (40, .if_icmp .ge 24, 3), (43, .aload 7, 2), (45, .iload 9, 2), (47, .baload, 1), (48, .istore 10, 2), (50, .iload_n 2, 1), (51, .iload 10, 2)] := dk_use _ _ (by decide +kernel)
theorem dd_X9_count_2 : dk_R cX9_count [(53, .invokestatic 71, 3), (56, .iadd, 1), (57, .istore_n 2, 1), (58, .iinc 9 1, 3), (61, .goto (-25), 3), (64, .iinc 5 1, 3), (67, .goto (-56), 3), (70, .iload_n 2, 1), (71, .ireturn, 1)] := dk_use _ _ (by decide +kernel)
def fX9_count_i (hn : Nat) (hk : Nat) (hG : Nat → Nat → Int32) : Option (Int32) := ((wl (S := Int32 × Int32) (B := Int32 × Int32) (fun s_1 => (if (nI hn) ≤ s_1.2 then some (.inr (s_1.1, s_1.2)) else (if ¬ (s_1.2 < 0 ∨ hn ≤ s_1.2.toNatClampNeg) then ((wl (S := Int32 × Int32) (B := Int32 × Int32) (fun s_5 => (if (nI hk) ≤ s_5.2 then some (.inr (s_5.1, s_5.2)) else (if ¬ (s_5.2 < 0 ∨ hk ≤ s_5.2.toNatClampNeg) then (ylet (hG s_1.2.toNatClampNeg s_5.2.toNatClampNeg : Int32) fun y_9 => ((fX9_one y_9).bind fun x_10 => some (.inl (s_5.1 + x_10, s_5.2 + 1)))) else none))) yFuel (s_1.1, 0)).bind fun b_5 => some (.inl (b_5.1, s_1.2 + 1))) else none))) yFuel (0, 0)).bind fun b_1 => some b_1.1)
abbrev hX9_count : Cond := .code yX9_count cX9_count 11 (some .int)
theorem mX9_count : yM yX9_count hX9_count 1 := ⟨u_1341, u_64, by decide +kernel, by decide +kernel, by decide +kernel⟩
set_option maxHeartbeats 4000000 in
set_option maxRecDepth 100000 in
theorem kX9_count_i (l : Launch) (D : va_G) (cy : Nat → ClassId) (g : Nat) (gth : Int32) (gw : Nat) (gB : Nat) (gK : Nat) (gU : Nat) (gS : Nat) (gbe : Int32) (gwo : Int32) (gta : Int64) (glr : Int32) (glc : Int32) (gti : Int32) (ggo : Int32) (gR : Nat) (gch : Int32) (gD : Nat) (h : Nat) (hd : Nat → Nat) (hn : Nat) (hk : Nat) (hG : Nat → Nat → Int32) {res : Int32} (hR : fX9_count_i hn hk hG = some res) : YM l D cy yX9_count hX9_count 2 0 0 [.ref g, .ref h] [[(g, .inr (11, [.int gth, .ref gw, .ref gB, .ref gK, .ref gU, .ref gS, .int gbe, .int gwo, .long gta, .null, .int glr, .int glc, .int gti, .int ggo, .ref gR, .int gch, .ref gD]))], [(h, .inl (cy 4, hn, .inr (.inr (.inr (.inr (yad hd))))))], xg_rows hd hn (cy 2) hk hG] (fun v u => v = some (.int res) ∧ u = [[(g, .inr (11, [.int gth, .ref gw, .ref gB, .ref gK, .ref gU, .ref gS, .int gbe, .int gwo, .long gta, .null, .int glr, .int glc, .int gti, .int ggo, .ref gR, .int gch, .ref gD]))], [(h, .inl (cy 4, hn, .inr (.inr (.inr (.inr (yad hd))))))], xg_rows hd hn (cy 2) hk hG]) := by
  unfold fX9_count_i at hR
  refine YM.ofI (cc := cX9_count) (maxL := 11) (ret := (some .int)) (by decide +kernel) rfl (Nat.le_of_ble_eq_true rfl) [(0, .ref g), (1, .ref h)] rfl rfl (fun p e s m args below meth c A H0 Q C hnm ret => ?_)
  refine xr_iconst (n := 1) (v := 0) C dd_X9_count_0.1 rfl rfl ?_
  refine xr_istore_n (n := 2) C [(2, .int 0), (0, .ref g), (1, .ref h)] dd_X9_count_0.2.1 (by decide) rfl rfl ?_
  refine xr_aload_n (n := 3) (j := 2) C dd_X9_count_0.2.2.1 rfl rfl ?_
  refine xr_astore_n (n := 4) C [(3, .ref h), (2, .int 0), (0, .ref g), (1, .ref h)] dd_X9_count_0.2.2.2.1 (by decide) rfl rfl ?_
  refine xr_aload_n (n := 5) (j := 0) C dd_X9_count_0.2.2.2.2.1 rfl rfl ?_
  refine xr_alen (n := 6) C 1 0 rfl 4 rfl rfl dd_X9_count_0.2.2.2.2.2.1 rfl ?_
  refine xr_istore (n := 8) C [(4, .int (nI hn)), (3, .ref h), (2, .int 0), (0, .ref g), (1, .ref h)] dd_X9_count_0.2.2.2.2.2.2.1 (by decide) rfl rfl ?_
  refine xr_iconst (n := 9) (v := 0) C dd_X9_count_0.2.2.2.2.2.2.2.1 rfl rfl ?_
  refine xr_istore (n := 11) C [(5, .int 0), (4, .int (nI hn)), (3, .ref h), (2, .int 0), (0, .ref g), (1, .ref h)] dd_X9_count_0.2.2.2.2.2.2.2.2.1 (by decide) rfl rfl ?_
  refine xr_lv (lv' := [(2, .int 0), (3, .ref h), (4, .int (nI hn)), (5, .int 0)]) [3, 2, 1, 0] rfl ?_
  obtain ⟨b_1, hb_1, hR⟩ := yf_b hR
  have K_1 : X p l e (yR 2 0 0) s m args below meth c D A H0 11 Q [[(g, .inr (11, [.int gth, .ref gw, .ref gB, .ref gK, .ref gU, .ref gS, .int gbe, .int gwo, .long gta, .null, .int glr, .int glc, .int gti, .int ggo, .ref gR, .int gch, .ref gD]))], [(h, .inl (cy 4, hn, .inr (.inr (.inr (.inr (yad hd))))))], xg_rows hd hn (cy 2) hk hG] 0 0 [(2, .int b_1.1)] 70 [] := by
    refine xr_iload_n (n := 71) (j := 0) C dd_X9_count_2.2.2.2.2.2.2.2.1 rfl rfl ?_
    obtain rfl := Option.some.inj hR
    exact ret b_1.1 ⟨rfl, rfl⟩ (Nat.le_of_ble_eq_true rfl) (Nat.le_of_ble_eq_true rfl) dd_X9_count_2.2.2.2.2.2.2.2.2.1
  refine y_loop (P := fun (s_1 : Int32 × Int32) => X p l e (yR 2 0 0) s m args below meth c D A H0 11 Q [[(g, .inr (11, [.int gth, .ref gw, .ref gB, .ref gK, .ref gU, .ref gS, .int gbe, .int gwo, .long gta, .null, .int glr, .int glc, .int gti, .int ggo, .ref gR, .int gch, .ref gD]))], [(h, .inl (cy 4, hn, .inr (.inr (.inr (.inr (yad hd))))))], xg_rows hd hn (cy 2) hk hG] 0 0 [(2, .int s_1.1), (3, .ref h), (4, .int (nI hn)), (5, .int s_1.2)] 11 []) ?_ _ (0, 0) hb_1
  intro s_1 o_1 ho_1 hk_1 hx_1
  refine xr_iload (n := 13) (j := 3) C dd_X9_count_0.2.2.2.2.2.2.2.2.2.1 rfl rfl ?_
  refine xr_iload (n := 15) (j := 2) C dd_X9_count_0.2.2.2.2.2.2.2.2.2.2.1 rfl rfl ?_
  refine xr_icmp_ge (tgt := 70) (n := 18) C dd_X9_count_0.2.2.2.2.2.2.2.2.2.2.2.1 rfl rfl (fun c_2 => ?_) (fun c_2 => ?_)
  · replace ho_1 := yf_t c_2 ho_1
    refine xr_lv (lv' := [(2, .int s_1.1)]) [0] rfl ?_
    have e_3 := hx_1 _ (Option.some.inj ho_1).symm
    subst e_3
    exact K_1
  · replace ho_1 := yf_f c_2 ho_1
    refine xr_aload_n (n := 19) (j := 1) C dd_X9_count_0.2.2.2.2.2.2.2.2.2.2.2.2.1 rfl rfl ?_
    refine xr_iload (n := 21) (j := 3) C dd_X9_count_0.2.2.2.2.2.2.2.2.2.2.2.2.2.1 rfl rfl ?_
    obtain ⟨g_4, ho_1⟩ := yf_g ho_1
    refine xr_aald (n := 22) C 1 0 rfl 4 rfl rfl g_4 rfl dd_X9_count_0.2.2.2.2.2.2.2.2.2.2.2.2.2.2.1 rfl ?_
    refine xr_astore (n := 24) C [(6, .ref (hd s_1.2.toNatClampNeg)), (2, .int s_1.1), (3, .ref h), (4, .int (nI hn)), (5, .int s_1.2)] dd_X9_count_0.2.2.2.2.2.2.2.2.2.2.2.2.2.2.2.1 (by decide) rfl rfl ?_
    refine xr_aload (n := 26) (j := 0) C dd_X9_count_1.1 rfl rfl ?_
    refine xr_astore (n := 28) C [(7, .ref (hd s_1.2.toNatClampNeg)), (6, .ref (hd s_1.2.toNatClampNeg)), (2, .int s_1.1), (3, .ref h), (4, .int (nI hn)), (5, .int s_1.2)] dd_X9_count_1.2.1 (by decide) rfl rfl ?_
    refine xr_aload (n := 30) (j := 0) C dd_X9_count_1.2.2.1 rfl rfl ?_
    refine xr_aleng (n := 31) C 2 2 rfl s_1.2.toNatClampNeg (ylt g_4) rfl dd_X9_count_1.2.2.2.1 rfl ?_
    refine xr_istore (n := 33) C [(8, .int (nI hk)), (7, .ref (hd s_1.2.toNatClampNeg)), (6, .ref (hd s_1.2.toNatClampNeg)), (2, .int s_1.1), (3, .ref h), (4, .int (nI hn)), (5, .int s_1.2)] dd_X9_count_1.2.2.2.2.1 (by decide) rfl rfl ?_
    refine xr_iconst (n := 34) (v := 0) C dd_X9_count_1.2.2.2.2.2.1 rfl rfl ?_
    refine xr_istore (n := 36) C [(9, .int 0), (8, .int (nI hk)), (7, .ref (hd s_1.2.toNatClampNeg)), (6, .ref (hd s_1.2.toNatClampNeg)), (2, .int s_1.1), (3, .ref h), (4, .int (nI hn)), (5, .int s_1.2)] dd_X9_count_1.2.2.2.2.2.2.1 (by decide) rfl rfl ?_
    refine xr_lv (lv' := [(2, .int s_1.1), (3, .ref h), (4, .int (nI hn)), (5, .int s_1.2), (7, .ref (hd s_1.2.toNatClampNeg)), (8, .int (nI hk)), (9, .int 0)]) [4, 5, 6, 7, 2, 1, 0] rfl ?_
    obtain ⟨b_5, hb_5, ho_1⟩ := yf_b ho_1
    have K_5 : X p l e (yR 2 0 0) s m args below meth c D A H0 11 Q [[(g, .inr (11, [.int gth, .ref gw, .ref gB, .ref gK, .ref gU, .ref gS, .int gbe, .int gwo, .long gta, .null, .int glr, .int glc, .int gti, .int ggo, .ref gR, .int gch, .ref gD]))], [(h, .inl (cy 4, hn, .inr (.inr (.inr (.inr (yad hd))))))], xg_rows hd hn (cy 2) hk hG] 0 0 [(2, .int b_5.1), (3, .ref h), (4, .int (nI hn)), (5, .int s_1.2)] 64 [] := by
      refine xr_iinc (j := 3) (v := s_1.2 + 1) (n := 67) C [(5, .int (s_1.2 + 1)), (2, .int b_5.1), (3, .ref h), (4, .int (nI hn))] dd_X9_count_2.2.2.2.2.2.1 rfl rfl (by decide) rfl rfl ?_
      refine xr_goto (tgt := 11) C dd_X9_count_2.2.2.2.2.2.2.1 rfl ?_
      refine xr_lv (lv' := [(2, .int b_5.1), (3, .ref h), (4, .int (nI hn)), (5, .int (s_1.2 + 1))]) [1, 2, 3, 0] rfl ?_
      exact hk_1 (b_5.1, s_1.2 + 1) (Option.some.inj ho_1).symm
    refine y_loop (P := fun (s_5 : Int32 × Int32) => X p l e (yR 2 0 0) s m args below meth c D A H0 11 Q [[(g, .inr (11, [.int gth, .ref gw, .ref gB, .ref gK, .ref gU, .ref gS, .int gbe, .int gwo, .long gta, .null, .int glr, .int glc, .int gti, .int ggo, .ref gR, .int gch, .ref gD]))], [(h, .inl (cy 4, hn, .inr (.inr (.inr (.inr (yad hd))))))], xg_rows hd hn (cy 2) hk hG] 0 0 [(2, .int s_5.1), (3, .ref h), (4, .int (nI hn)), (5, .int s_1.2), (7, .ref (hd s_1.2.toNatClampNeg)), (8, .int (nI hk)), (9, .int s_5.2)] 36 []) ?_ _ (s_1.1, 0) hb_5
    intro s_5 o_5 ho_5 hk_5 hx_5
    refine xr_iload (n := 38) (j := 6) C dd_X9_count_1.2.2.2.2.2.2.2.1 rfl rfl ?_
    refine xr_iload (n := 40) (j := 5) C dd_X9_count_1.2.2.2.2.2.2.2.2.1 rfl rfl ?_
    refine xr_icmp_ge (tgt := 64) (n := 43) C dd_X9_count_1.2.2.2.2.2.2.2.2.2.1 rfl rfl (fun c_6 => ?_) (fun c_6 => ?_)
    · replace ho_5 := yf_t c_6 ho_5
      refine xr_lv (lv' := [(2, .int s_5.1), (3, .ref h), (4, .int (nI hn)), (5, .int s_1.2)]) [0, 1, 2, 3] rfl ?_
      have e_7 := hx_5 _ (Option.some.inj ho_5).symm
      subst e_7
      exact K_5
    · replace ho_5 := yf_f c_6 ho_5
      refine xr_aload (n := 45) (j := 4) C dd_X9_count_1.2.2.2.2.2.2.2.2.2.2.1 rfl rfl ?_
      refine xr_iload (n := 47) (j := 6) C dd_X9_count_1.2.2.2.2.2.2.2.2.2.2.2.1 rfl rfl ?_
      obtain ⟨g_8, ho_5⟩ := yf_g ho_5
      refine xr_zaldg (n := 48) C 2 rfl s_1.2.toNatClampNeg (ylt g_4) g_8 dd_X9_count_1.2.2.2.2.2.2.2.2.2.2.2.2.1 rfl ?_
      obtain ⟨y_9, ey_9, ho_5⟩ := yf_l ho_5
      refine xr_topI ey_9 ?_
      refine xr_istore (n := 50) C [(10, .int y_9), (2, .int s_5.1), (3, .ref h), (4, .int (nI hn)), (5, .int s_1.2), (7, .ref (hd s_1.2.toNatClampNeg)), (8, .int (nI hk)), (9, .int s_5.2)] dd_X9_count_1.2.2.2.2.2.2.2.2.2.2.2.2.2.1 (by decide) rfl rfl ?_
      refine xr_iload_n (n := 51) (j := 1) C dd_X9_count_1.2.2.2.2.2.2.2.2.2.2.2.2.2.2.1 rfl rfl ?_
      refine xr_iload (n := 53) (j := 0) C dd_X9_count_1.2.2.2.2.2.2.2.2.2.2.2.2.2.2.2.1 rfl rfl ?_
      obtain ⟨x_10, hx_10, ho_5⟩ := yf_b ho_5
      refine xr_callSp (n := 56) (As := [.int y_9]) (rest := [.int s_5.1]) C (kX9_one l D cy (i1 := y_9) hx_10) mX9_one u_1312 u_1313 3 [] [0, 1, 2] rfl (by decide +kernel) rfl rfl rfl rfl (Nat.le_of_ble_eq_true rfl) (Nat.le_of_ble_eq_true rfl) (Nat.le_of_ble_eq_true rfl) (Nat.le_of_ble_eq_true rfl) (Nat.le_of_ble_eq_true rfl) dd_X9_count_2.1 rfl (fun _ _ hp => hp.2) (fun v_11 hp_13 => ?_)
      obtain ⟨rfl, -⟩ := hp_13
      refine xr_st (st' := [.int x_10, .int s_5.1]) rfl ?_
      refine xr_iadd (n := 57) C dd_X9_count_2.2.1 rfl ?_
      refine xr_istore_n (n := 58) C [(2, .int (s_5.1 + x_10)), (10, .int y_9), (3, .ref h), (4, .int (nI hn)), (5, .int s_1.2), (7, .ref (hd s_1.2.toNatClampNeg)), (8, .int (nI hk)), (9, .int s_5.2)] dd_X9_count_2.2.2.1 (by decide) rfl rfl ?_
      refine xr_iinc (j := 7) (v := s_5.2 + 1) (n := 61) C [(9, .int (s_5.2 + 1)), (2, .int (s_5.1 + x_10)), (10, .int y_9), (3, .ref h), (4, .int (nI hn)), (5, .int s_1.2), (7, .ref (hd s_1.2.toNatClampNeg)), (8, .int (nI hk))] dd_X9_count_2.2.2.2.1 rfl rfl (by decide) rfl rfl ?_
      refine xr_goto (tgt := 36) C dd_X9_count_2.2.2.2.2.1 rfl ?_
      refine xr_lv (lv' := [(2, .int (s_5.1 + x_10)), (3, .ref h), (4, .int (nI hn)), (5, .int s_1.2), (7, .ref (hd s_1.2.toNatClampNeg)), (8, .int (nI hk)), (9, .int (s_5.2 + 1))]) [1, 3, 4, 5, 6, 7, 0] rfl ?_
      exact hk_5 (s_5.1 + x_10, s_5.2 + 1) (Option.some.inj ho_5).symm
def fX9_count_r (hn : Nat) (hk : Nat) (hG : Nat → Nat → Int32) : Option (Int32) := ((wl (S := Int32 × Int32) (B := Int32 × Int32) (fun s_1 => (if (nI hn) ≤ s_1.2 then some (.inr (s_1.1, s_1.2)) else (if ¬ (s_1.2 < 0 ∨ hn ≤ s_1.2.toNatClampNeg) then ((wl (S := Int32 × Int32) (B := Int32 × Int32) (fun s_5 => (if (nI hk) ≤ s_5.2 then some (.inr (s_5.1, s_5.2)) else (if ¬ (s_5.2 < 0 ∨ hk ≤ s_5.2.toNatClampNeg) then (ylet (hG s_1.2.toNatClampNeg s_5.2.toNatClampNeg : Int32) fun y_9 => ((fX9_one y_9).bind fun x_10 => some (.inl (s_5.1 + x_10, s_5.2 + 1)))) else none))) yFuel (s_1.1, 0)).bind fun b_5 => some (.inl (b_5.1, s_1.2 + 1))) else none))) yFuel (0, 0)).bind fun b_1 => some b_1.1)
set_option maxHeartbeats 4000000 in
set_option maxRecDepth 100000 in
theorem kX9_count_r (l : Launch) (D : va_G) (cy : Nat → ClassId) (g : Nat) (gth : Int32) (gw : Nat) (gB : Nat) (gK : Nat) (gU : Nat) (gS : Nat) (gbe : Int32) (gwo : Int32) (gta : Int64) (gn : Nat) (glr : Int32) (glc : Int32) (gti : Int32) (ggo : Int32) (gR : Nat) (gch : Int32) (gD : Nat) (h : Nat) (hd : Nat → Nat) (hn : Nat) (hk : Nat) (hG : Nat → Nat → Int32) {res : Int32} (hR : fX9_count_r hn hk hG = some res) : YM l D cy yX9_count hX9_count 2 0 0 [.ref g, .ref h] [[(g, .inr (11, [.int gth, .ref gw, .ref gB, .ref gK, .ref gU, .ref gS, .int gbe, .int gwo, .long gta, .ref gn, .int glr, .int glc, .int gti, .int ggo, .ref gR, .int gch, .ref gD]))], [(h, .inl (cy 4, hn, .inr (.inr (.inr (.inr (yad hd))))))], xg_rows hd hn (cy 2) hk hG] (fun v u => v = some (.int res) ∧ u = [[(g, .inr (11, [.int gth, .ref gw, .ref gB, .ref gK, .ref gU, .ref gS, .int gbe, .int gwo, .long gta, .ref gn, .int glr, .int glc, .int gti, .int ggo, .ref gR, .int gch, .ref gD]))], [(h, .inl (cy 4, hn, .inr (.inr (.inr (.inr (yad hd))))))], xg_rows hd hn (cy 2) hk hG]) := by
  unfold fX9_count_r at hR
  refine YM.ofI (cc := cX9_count) (maxL := 11) (ret := (some .int)) (by decide +kernel) rfl (Nat.le_of_ble_eq_true rfl) [(0, .ref g), (1, .ref h)] rfl rfl (fun p e s m args below meth c A H0 Q C hnm ret => ?_)
  refine xr_iconst (n := 1) (v := 0) C dd_X9_count_0.1 rfl rfl ?_
  refine xr_istore_n (n := 2) C [(2, .int 0), (0, .ref g), (1, .ref h)] dd_X9_count_0.2.1 (by decide) rfl rfl ?_
  refine xr_aload_n (n := 3) (j := 2) C dd_X9_count_0.2.2.1 rfl rfl ?_
  refine xr_astore_n (n := 4) C [(3, .ref h), (2, .int 0), (0, .ref g), (1, .ref h)] dd_X9_count_0.2.2.2.1 (by decide) rfl rfl ?_
  refine xr_aload_n (n := 5) (j := 0) C dd_X9_count_0.2.2.2.2.1 rfl rfl ?_
  refine xr_alen (n := 6) C 1 0 rfl 4 rfl rfl dd_X9_count_0.2.2.2.2.2.1 rfl ?_
  refine xr_istore (n := 8) C [(4, .int (nI hn)), (3, .ref h), (2, .int 0), (0, .ref g), (1, .ref h)] dd_X9_count_0.2.2.2.2.2.2.1 (by decide) rfl rfl ?_
  refine xr_iconst (n := 9) (v := 0) C dd_X9_count_0.2.2.2.2.2.2.2.1 rfl rfl ?_
  refine xr_istore (n := 11) C [(5, .int 0), (4, .int (nI hn)), (3, .ref h), (2, .int 0), (0, .ref g), (1, .ref h)] dd_X9_count_0.2.2.2.2.2.2.2.2.1 (by decide) rfl rfl ?_
  refine xr_lv (lv' := [(2, .int 0), (3, .ref h), (4, .int (nI hn)), (5, .int 0)]) [3, 2, 1, 0] rfl ?_
  obtain ⟨b_1, hb_1, hR⟩ := yf_b hR
  have K_1 : X p l e (yR 2 0 0) s m args below meth c D A H0 11 Q [[(g, .inr (11, [.int gth, .ref gw, .ref gB, .ref gK, .ref gU, .ref gS, .int gbe, .int gwo, .long gta, .ref gn, .int glr, .int glc, .int gti, .int ggo, .ref gR, .int gch, .ref gD]))], [(h, .inl (cy 4, hn, .inr (.inr (.inr (.inr (yad hd))))))], xg_rows hd hn (cy 2) hk hG] 0 0 [(2, .int b_1.1)] 70 [] := by
    refine xr_iload_n (n := 71) (j := 0) C dd_X9_count_2.2.2.2.2.2.2.2.1 rfl rfl ?_
    obtain rfl := Option.some.inj hR
    exact ret b_1.1 ⟨rfl, rfl⟩ (Nat.le_of_ble_eq_true rfl) (Nat.le_of_ble_eq_true rfl) dd_X9_count_2.2.2.2.2.2.2.2.2.1
  refine y_loop (P := fun (s_1 : Int32 × Int32) => X p l e (yR 2 0 0) s m args below meth c D A H0 11 Q [[(g, .inr (11, [.int gth, .ref gw, .ref gB, .ref gK, .ref gU, .ref gS, .int gbe, .int gwo, .long gta, .ref gn, .int glr, .int glc, .int gti, .int ggo, .ref gR, .int gch, .ref gD]))], [(h, .inl (cy 4, hn, .inr (.inr (.inr (.inr (yad hd))))))], xg_rows hd hn (cy 2) hk hG] 0 0 [(2, .int s_1.1), (3, .ref h), (4, .int (nI hn)), (5, .int s_1.2)] 11 []) ?_ _ (0, 0) hb_1
  intro s_1 o_1 ho_1 hk_1 hx_1
  refine xr_iload (n := 13) (j := 3) C dd_X9_count_0.2.2.2.2.2.2.2.2.2.1 rfl rfl ?_
  refine xr_iload (n := 15) (j := 2) C dd_X9_count_0.2.2.2.2.2.2.2.2.2.2.1 rfl rfl ?_
  refine xr_icmp_ge (tgt := 70) (n := 18) C dd_X9_count_0.2.2.2.2.2.2.2.2.2.2.2.1 rfl rfl (fun c_2 => ?_) (fun c_2 => ?_)
  · replace ho_1 := yf_t c_2 ho_1
    refine xr_lv (lv' := [(2, .int s_1.1)]) [0] rfl ?_
    have e_3 := hx_1 _ (Option.some.inj ho_1).symm
    subst e_3
    exact K_1
  · replace ho_1 := yf_f c_2 ho_1
    refine xr_aload_n (n := 19) (j := 1) C dd_X9_count_0.2.2.2.2.2.2.2.2.2.2.2.2.1 rfl rfl ?_
    refine xr_iload (n := 21) (j := 3) C dd_X9_count_0.2.2.2.2.2.2.2.2.2.2.2.2.2.1 rfl rfl ?_
    obtain ⟨g_4, ho_1⟩ := yf_g ho_1
    refine xr_aald (n := 22) C 1 0 rfl 4 rfl rfl g_4 rfl dd_X9_count_0.2.2.2.2.2.2.2.2.2.2.2.2.2.2.1 rfl ?_
    refine xr_astore (n := 24) C [(6, .ref (hd s_1.2.toNatClampNeg)), (2, .int s_1.1), (3, .ref h), (4, .int (nI hn)), (5, .int s_1.2)] dd_X9_count_0.2.2.2.2.2.2.2.2.2.2.2.2.2.2.2.1 (by decide) rfl rfl ?_
    refine xr_aload (n := 26) (j := 0) C dd_X9_count_1.1 rfl rfl ?_
    refine xr_astore (n := 28) C [(7, .ref (hd s_1.2.toNatClampNeg)), (6, .ref (hd s_1.2.toNatClampNeg)), (2, .int s_1.1), (3, .ref h), (4, .int (nI hn)), (5, .int s_1.2)] dd_X9_count_1.2.1 (by decide) rfl rfl ?_
    refine xr_aload (n := 30) (j := 0) C dd_X9_count_1.2.2.1 rfl rfl ?_
    refine xr_aleng (n := 31) C 2 2 rfl s_1.2.toNatClampNeg (ylt g_4) rfl dd_X9_count_1.2.2.2.1 rfl ?_
    refine xr_istore (n := 33) C [(8, .int (nI hk)), (7, .ref (hd s_1.2.toNatClampNeg)), (6, .ref (hd s_1.2.toNatClampNeg)), (2, .int s_1.1), (3, .ref h), (4, .int (nI hn)), (5, .int s_1.2)] dd_X9_count_1.2.2.2.2.1 (by decide) rfl rfl ?_
    refine xr_iconst (n := 34) (v := 0) C dd_X9_count_1.2.2.2.2.2.1 rfl rfl ?_
    refine xr_istore (n := 36) C [(9, .int 0), (8, .int (nI hk)), (7, .ref (hd s_1.2.toNatClampNeg)), (6, .ref (hd s_1.2.toNatClampNeg)), (2, .int s_1.1), (3, .ref h), (4, .int (nI hn)), (5, .int s_1.2)] dd_X9_count_1.2.2.2.2.2.2.1 (by decide) rfl rfl ?_
    refine xr_lv (lv' := [(2, .int s_1.1), (3, .ref h), (4, .int (nI hn)), (5, .int s_1.2), (7, .ref (hd s_1.2.toNatClampNeg)), (8, .int (nI hk)), (9, .int 0)]) [4, 5, 6, 7, 2, 1, 0] rfl ?_
    obtain ⟨b_5, hb_5, ho_1⟩ := yf_b ho_1
    have K_5 : X p l e (yR 2 0 0) s m args below meth c D A H0 11 Q [[(g, .inr (11, [.int gth, .ref gw, .ref gB, .ref gK, .ref gU, .ref gS, .int gbe, .int gwo, .long gta, .ref gn, .int glr, .int glc, .int gti, .int ggo, .ref gR, .int gch, .ref gD]))], [(h, .inl (cy 4, hn, .inr (.inr (.inr (.inr (yad hd))))))], xg_rows hd hn (cy 2) hk hG] 0 0 [(2, .int b_5.1), (3, .ref h), (4, .int (nI hn)), (5, .int s_1.2)] 64 [] := by
      refine xr_iinc (j := 3) (v := s_1.2 + 1) (n := 67) C [(5, .int (s_1.2 + 1)), (2, .int b_5.1), (3, .ref h), (4, .int (nI hn))] dd_X9_count_2.2.2.2.2.2.1 rfl rfl (by decide) rfl rfl ?_
      refine xr_goto (tgt := 11) C dd_X9_count_2.2.2.2.2.2.2.1 rfl ?_
      refine xr_lv (lv' := [(2, .int b_5.1), (3, .ref h), (4, .int (nI hn)), (5, .int (s_1.2 + 1))]) [1, 2, 3, 0] rfl ?_
      exact hk_1 (b_5.1, s_1.2 + 1) (Option.some.inj ho_1).symm
    refine y_loop (P := fun (s_5 : Int32 × Int32) => X p l e (yR 2 0 0) s m args below meth c D A H0 11 Q [[(g, .inr (11, [.int gth, .ref gw, .ref gB, .ref gK, .ref gU, .ref gS, .int gbe, .int gwo, .long gta, .ref gn, .int glr, .int glc, .int gti, .int ggo, .ref gR, .int gch, .ref gD]))], [(h, .inl (cy 4, hn, .inr (.inr (.inr (.inr (yad hd))))))], xg_rows hd hn (cy 2) hk hG] 0 0 [(2, .int s_5.1), (3, .ref h), (4, .int (nI hn)), (5, .int s_1.2), (7, .ref (hd s_1.2.toNatClampNeg)), (8, .int (nI hk)), (9, .int s_5.2)] 36 []) ?_ _ (s_1.1, 0) hb_5
    intro s_5 o_5 ho_5 hk_5 hx_5
    refine xr_iload (n := 38) (j := 6) C dd_X9_count_1.2.2.2.2.2.2.2.1 rfl rfl ?_
    refine xr_iload (n := 40) (j := 5) C dd_X9_count_1.2.2.2.2.2.2.2.2.1 rfl rfl ?_
    refine xr_icmp_ge (tgt := 64) (n := 43) C dd_X9_count_1.2.2.2.2.2.2.2.2.2.1 rfl rfl (fun c_6 => ?_) (fun c_6 => ?_)
    · replace ho_5 := yf_t c_6 ho_5
      refine xr_lv (lv' := [(2, .int s_5.1), (3, .ref h), (4, .int (nI hn)), (5, .int s_1.2)]) [0, 1, 2, 3] rfl ?_
      have e_7 := hx_5 _ (Option.some.inj ho_5).symm
      subst e_7
      exact K_5
    · replace ho_5 := yf_f c_6 ho_5
      refine xr_aload (n := 45) (j := 4) C dd_X9_count_1.2.2.2.2.2.2.2.2.2.2.1 rfl rfl ?_
      refine xr_iload (n := 47) (j := 6) C dd_X9_count_1.2.2.2.2.2.2.2.2.2.2.2.1 rfl rfl ?_
      obtain ⟨g_8, ho_5⟩ := yf_g ho_5
      refine xr_zaldg (n := 48) C 2 rfl s_1.2.toNatClampNeg (ylt g_4) g_8 dd_X9_count_1.2.2.2.2.2.2.2.2.2.2.2.2.1 rfl ?_
      obtain ⟨y_9, ey_9, ho_5⟩ := yf_l ho_5
      refine xr_topI ey_9 ?_
      refine xr_istore (n := 50) C [(10, .int y_9), (2, .int s_5.1), (3, .ref h), (4, .int (nI hn)), (5, .int s_1.2), (7, .ref (hd s_1.2.toNatClampNeg)), (8, .int (nI hk)), (9, .int s_5.2)] dd_X9_count_1.2.2.2.2.2.2.2.2.2.2.2.2.2.1 (by decide) rfl rfl ?_
      refine xr_iload_n (n := 51) (j := 1) C dd_X9_count_1.2.2.2.2.2.2.2.2.2.2.2.2.2.2.1 rfl rfl ?_
      refine xr_iload (n := 53) (j := 0) C dd_X9_count_1.2.2.2.2.2.2.2.2.2.2.2.2.2.2.2.1 rfl rfl ?_
      obtain ⟨x_10, hx_10, ho_5⟩ := yf_b ho_5
      refine xr_callSp (n := 56) (As := [.int y_9]) (rest := [.int s_5.1]) C (kX9_one l D cy (i1 := y_9) hx_10) mX9_one u_1312 u_1313 3 [] [0, 1, 2] rfl (by decide +kernel) rfl rfl rfl rfl (Nat.le_of_ble_eq_true rfl) (Nat.le_of_ble_eq_true rfl) (Nat.le_of_ble_eq_true rfl) (Nat.le_of_ble_eq_true rfl) (Nat.le_of_ble_eq_true rfl) dd_X9_count_2.1 rfl (fun _ _ hp => hp.2) (fun v_11 hp_13 => ?_)
      obtain ⟨rfl, -⟩ := hp_13
      refine xr_st (st' := [.int x_10, .int s_5.1]) rfl ?_
      refine xr_iadd (n := 57) C dd_X9_count_2.2.1 rfl ?_
      refine xr_istore_n (n := 58) C [(2, .int (s_5.1 + x_10)), (10, .int y_9), (3, .ref h), (4, .int (nI hn)), (5, .int s_1.2), (7, .ref (hd s_1.2.toNatClampNeg)), (8, .int (nI hk)), (9, .int s_5.2)] dd_X9_count_2.2.2.1 (by decide) rfl rfl ?_
      refine xr_iinc (j := 7) (v := s_5.2 + 1) (n := 61) C [(9, .int (s_5.2 + 1)), (2, .int (s_5.1 + x_10)), (10, .int y_9), (3, .ref h), (4, .int (nI hn)), (5, .int s_1.2), (7, .ref (hd s_1.2.toNatClampNeg)), (8, .int (nI hk))] dd_X9_count_2.2.2.2.1 rfl rfl (by decide) rfl rfl ?_
      refine xr_goto (tgt := 36) C dd_X9_count_2.2.2.2.2.1 rfl ?_
      refine xr_lv (lv' := [(2, .int (s_5.1 + x_10)), (3, .ref h), (4, .int (nI hn)), (5, .int s_1.2), (7, .ref (hd s_1.2.toNatClampNeg)), (8, .int (nI hk)), (9, .int (s_5.2 + 1))]) [1, 3, 4, 5, 6, 7, 0] rfl ?_
      exact hk_5 (s_5.1 + x_10, s_5.2 + 1) (Option.some.inj ho_5).symm
theorem dd_X9_isNoCell_0 : dk_R cX9_isNoCell [(0, .iload_n 0, 1), (1, .iconst 0, 1), (2, .iconst 4, 1), (3, .invokestatic 75, 3), (6, .ifCond .eq 12, 3), (9, .iload_n 1, 1), (10, .iconst 0, 1), (11, .iconst 4, 1), (12, .invokestatic 75, 3), (15, .ifCond .ne 7, 3), (18, .iconst 1, 1), (19, .goto 4, 3), (22, .iconst 0, 1), (23, .ireturn, 1)] := dk_use _ _ (by decide +kernel)
def fX9_isNoCell (i1 : Int32) (i2 : Int32) : Option (Int32) := ((fX9_isIn i1 0 4).bind fun x_1 => (if x_1 = 0 then some 1 else ((fX9_isIn i2 0 4).bind fun x_6 => (if x_6 = 0 then some 1 else some 0))))
abbrev hX9_isNoCell : Cond := .code yX9_isNoCell cX9_isNoCell 2 (some .boolean)
theorem mX9_isNoCell : yM yX9_isNoCell hX9_isNoCell 2 := ⟨u_1337, u_64, by decide +kernel, by decide +kernel, by decide +kernel⟩
set_option maxHeartbeats 4000000 in
set_option maxRecDepth 100000 in
theorem kX9_isNoCell (l : Launch) (D : va_G) (cy : Nat → ClassId) (i1 : Int32) (i2 : Int32) {res : Int32} (hR : fX9_isNoCell i1 i2 = some res) : YM l D cy yX9_isNoCell hX9_isNoCell 2 0 0 [.int i1, .int i2] [] (fun v u => v = some (.int res) ∧ u = []) := by
  unfold fX9_isNoCell at hR
  refine YM.ofZ (cc := cX9_isNoCell) (maxL := 2) (ret := (some .boolean)) (by decide +kernel) rfl (Nat.le_of_ble_eq_true rfl) [(0, .int i1), (1, .int i2)] rfl .boolean rfl (fun p e s m args below meth c A H0 Q C hnm ret => ?_)
  refine xr_iload_n (n := 1) (j := 0) C dd_X9_isNoCell_0.1 rfl rfl ?_
  refine xr_iconst (n := 2) (v := 0) C dd_X9_isNoCell_0.2.1 rfl rfl ?_
  refine xr_iconst (n := 3) (v := 4) C dd_X9_isNoCell_0.2.2.1 rfl rfl ?_
  obtain ⟨x_1, hx_1, hR⟩ := yf_b hR
  refine xr_callSp (n := 6) (As := [.int i1, .int 0, .int 4]) (rest := []) C (kX9_isIn l D cy (i1 := i1) (i2 := 0) (i3 := 4) hx_1) mX9_isIn u_1298 u_1299 0 [] [] rfl (by decide +kernel) rfl rfl rfl rfl (Nat.le_of_ble_eq_true rfl) (Nat.le_of_ble_eq_true rfl) (Nat.le_of_ble_eq_true rfl) (Nat.le_of_ble_eq_true rfl) (Nat.le_of_ble_eq_true rfl) dd_X9_isNoCell_0.2.2.2.1 rfl (fun _ _ hp => hp.2) (fun v_2 hp_4 => ?_)
  obtain ⟨rfl, -⟩ := hp_4
  refine xr_st (st' := [.int x_1]) rfl ?_
  refine xr_if_eq (tgt := 18) (n := 9) C dd_X9_isNoCell_0.2.2.2.2.1 rfl rfl (fun c_5 => ?_) (fun c_5 => ?_)
  · replace hR := yf_t c_5 hR
    refine xr_iconst (n := 19) (v := 1) C dd_X9_isNoCell_0.2.2.2.2.2.2.2.2.2.2.1 rfl rfl ?_
    refine xr_goto (tgt := 23) C dd_X9_isNoCell_0.2.2.2.2.2.2.2.2.2.2.2.1 rfl ?_
    obtain rfl := Option.some.inj hR
    exact ret 1 (by decide) ⟨rfl, rfl⟩ (Nat.le_of_ble_eq_true rfl) (Nat.le_of_ble_eq_true rfl) dd_X9_isNoCell_0.2.2.2.2.2.2.2.2.2.2.2.2.2.1
  · replace hR := yf_f c_5 hR
    refine xr_iload_n (n := 10) (j := 1) C dd_X9_isNoCell_0.2.2.2.2.2.1 rfl rfl ?_
    refine xr_iconst (n := 11) (v := 0) C dd_X9_isNoCell_0.2.2.2.2.2.2.1 rfl rfl ?_
    refine xr_iconst (n := 12) (v := 4) C dd_X9_isNoCell_0.2.2.2.2.2.2.2.1 rfl rfl ?_
    obtain ⟨x_6, hx_6, hR⟩ := yf_b hR
    refine xr_callSp (n := 15) (As := [.int i2, .int 0, .int 4]) (rest := []) C (kX9_isIn l D cy (i1 := i2) (i2 := 0) (i3 := 4) hx_6) mX9_isIn u_1298 u_1299 0 [] [] rfl (by decide +kernel) rfl rfl rfl rfl (Nat.le_of_ble_eq_true rfl) (Nat.le_of_ble_eq_true rfl) (Nat.le_of_ble_eq_true rfl) (Nat.le_of_ble_eq_true rfl) (Nat.le_of_ble_eq_true rfl) dd_X9_isNoCell_0.2.2.2.2.2.2.2.2.1 rfl (fun _ _ hp => hp.2) (fun v_7 hp_9 => ?_)
    obtain ⟨rfl, -⟩ := hp_9
    refine xr_st (st' := [.int x_6]) rfl ?_
    refine xr_if_ne (tgt := 22) (n := 18) C dd_X9_isNoCell_0.2.2.2.2.2.2.2.2.2.1 rfl rfl (fun c_10 => ?_) (fun c_10 => ?_)
    · replace hR := yf_f c_10 hR
      refine xr_iconst (n := 23) (v := 0) C dd_X9_isNoCell_0.2.2.2.2.2.2.2.2.2.2.2.2.1 rfl rfl ?_
      obtain rfl := Option.some.inj hR
      exact ret 0 (by decide) ⟨rfl, rfl⟩ (Nat.le_of_ble_eq_true rfl) (Nat.le_of_ble_eq_true rfl) dd_X9_isNoCell_0.2.2.2.2.2.2.2.2.2.2.2.2.2.1
    · replace hR := yf_t c_10 hR
      refine xr_iconst (n := 19) (v := 1) C dd_X9_isNoCell_0.2.2.2.2.2.2.2.2.2.2.1 rfl rfl ?_
      refine xr_goto (tgt := 23) C dd_X9_isNoCell_0.2.2.2.2.2.2.2.2.2.2.2.1 rfl ?_
      obtain rfl := Option.some.inj hR
      exact ret 1 (by decide) ⟨rfl, rfl⟩ (Nat.le_of_ble_eq_true rfl) (Nat.le_of_ble_eq_true rfl) dd_X9_isNoCell_0.2.2.2.2.2.2.2.2.2.2.2.2.2.1
