theorem u_1417 : Cond.code yX8_first cX8_first 1 (some .int) ∈ yU := yu_tables_1_6 161 (by decide +kernel) (by decide +kernel)
theorem u_1474 : Cond.methodLink RX8 53 yJ9_min_7cf53 ∈ yU := yu_tables_1_6 218 (by decide +kernel) (by decide +kernel)
theorem u_1475 : Cond.methodLink RX8 59 yJ9_max_7cf53 ∈ yU := yu_tables_1_6 219 (by decide +kernel) (by decide +kernel)
theorem u_1473 : Cond.code yX8_with cX8_with 4 (some .int) ∈ yU := yu_tables_1_6 217 (by decide +kernel) (by decide +kernel)
theorem u_1543 : Cond.methodLink RX8 62 yX8_first ∈ yU := yu_tables_1_7 47 (by decide +kernel) (by decide +kernel)
theorem u_1415 : Cond.instanceMethod yX8_first ∈ yU := yu_tables_1_6 159 (by decide +kernel) (by decide +kernel)
theorem u_1416 : Cond.selects RX8 yX8_first yX8_first ∈ yU := yu_tables_1_6 160 (by decide +kernel) (by decide +kernel)
theorem u_1544 : Cond.methodLink RX8 65 yX8_a ∈ yU := yu_tables_1_7 48 (by decide +kernel) (by decide +kernel)
theorem u_1463 : Cond.instanceMethod yX8_a ∈ yU := yu_tables_1_6 207 (by decide +kernel) (by decide +kernel)
theorem u_1464 : Cond.selects RX8 yX8_a yX8_a ∈ yU := yu_tables_1_6 208 (by decide +kernel) (by decide +kernel)
theorem u_1545 : Cond.methodLink RX8 67 yX8_b ∈ yU := yu_tables_1_7 49 (by decide +kernel) (by decide +kernel)
theorem u_1467 : Cond.instanceMethod yX8_b ∈ yU := yu_tables_1_6 211 (by decide +kernel) (by decide +kernel)
theorem u_1468 : Cond.selects RX8 yX8_b yX8_b ∈ yU := yu_tables_1_6 212 (by decide +kernel) (by decide +kernel)
theorem u_1546 : Cond.methodLink RX8 69 yX8_with ∈ yU := yu_tables_1_7 50 (by decide +kernel) (by decide +kernel)
theorem u_1471 : Cond.instanceMethod yX8_with ∈ yU := yu_tables_1_6 215 (by decide +kernel) (by decide +kernel)
theorem u_1472 : Cond.selects RX8 yX8_with yX8_with ∈ yU := yu_tables_1_6 216 (by decide +kernel) (by decide +kernel)
theorem u_1542 : Cond.code yX8_plain cX8_plain 5 (some .int) ∈ yU := yu_tables_1_7 46 (by decide +kernel) (by decide +kernel)
theorem u_1237 : Cond.fieldLink RX9 64 "PulsemeshModel" "thrown" "I" ∈ yU := yu_tables_1_5 221 (by decide +kernel) (by decide +kernel)
theorem u_1293 : Cond.code yX9_thrown cX9_thrown 1 (some .int) ∈ yU := yu_tables_1_6 37 (by decide +kernel) (by decide +kernel)
theorem u_1308 : Cond.code yX9_refuse cX9_refuse 3 (some .boolean) ∈ yU := yu_tables_1_6 52 (by decide +kernel) (by decide +kernel)
theorem dd_X8_first_0 : dk_R cX8_first [(0, .aload_n 0, 1), (1, .getfield 33, 3), (4, .ifCond .ne 7, 3), (7, .iconst 0, 1), (8, .goto 20, 3), (11, .aload_n 0, 1), (12, .getfield 33, 3), (15, .iconst 1, 1), (16, .if_icmp .ne 9, 3), (19, .sipush 999, 3), (22, .goto 6, 3), (25, .sipush (-999), 3), (28, .ireturn, 1)] := dk_use _ _ (by decide +kernel)
def fX8_first (wg : Int32) : Option (Int32) := (if wg = 0 then some 0 else (if wg = 1 then some 999 else some (-999)))
abbrev hX8_first : Cond := .code yX8_first cX8_first 1 (some .int)
theorem mX8_first : yM yX8_first hX8_first 0 := ⟨u_1417, u_65, by decide +kernel, by decide +kernel, by decide +kernel⟩
set_option maxHeartbeats 4000000 in
set_option maxRecDepth 100000 in
theorem kX8_first (l : Launch) (D : va_G) (cy : Nat → ClassId) (w : Nat) (wr : Int32) (wk : Int32) (wc : Int32) (wg : Int32) (ws : Int32) (wa : Nat) (wb : Nat) {res : Int32} (hR : fX8_first wg = some res) : YM l D cy yX8_first hX8_first 1 0 0 [.ref w] [[(w, .inr (10, [.int wr, .int wk, .int wc, .int wg, .int ws, .ref wa, .ref wb]))]] (fun v u => v = some (.int res) ∧ u = [[(w, .inr (10, [.int wr, .int wk, .int wc, .int wg, .int ws, .ref wa, .ref wb]))]]) := by
  unfold fX8_first at hR
  refine YM.ofI (cc := cX8_first) (maxL := 1) (ret := (some .int)) (by decide +kernel) rfl (Nat.le_of_ble_eq_true rfl) [(0, .ref w)] rfl rfl (fun p e s m args below meth c A H0 Q C hnm ret => ?_)
  refine xr_aload_n (n := 1) (j := 0) C dd_X8_first_0.1 rfl rfl ?_
  refine xr_get (n := 4) C 0 rfl rfl 3 (by decide) in_X8 u_1206 rfl (v := .int wg) rfl dd_X8_first_0.2.1 rfl ?_
  refine xr_if_ne (tgt := 11) (n := 7) C dd_X8_first_0.2.2.1 rfl rfl (fun c_1 => ?_) (fun c_1 => ?_)
  · replace hR := yf_f c_1 hR
    refine xr_aload_n (n := 12) (j := 0) C dd_X8_first_0.2.2.2.2.2.1 rfl rfl ?_
    refine xr_get (n := 15) C 0 rfl rfl 3 (by decide) in_X8 u_1206 rfl (v := .int wg) rfl dd_X8_first_0.2.2.2.2.2.2.1 rfl ?_
    refine xr_iconst (n := 16) (v := 1) C dd_X8_first_0.2.2.2.2.2.2.2.1 rfl rfl ?_
    refine xr_icmp_ne (tgt := 25) (n := 19) C dd_X8_first_0.2.2.2.2.2.2.2.2.1 rfl rfl (fun c_2 => ?_) (fun c_2 => ?_)
    · replace hR := yf_f c_2 hR
      refine xr_sipush (n := 28) (v := -999) C dd_X8_first_0.2.2.2.2.2.2.2.2.2.2.2.1 rfl rfl ?_
      obtain rfl := Option.some.inj hR
      exact ret (-999) ⟨rfl, rfl⟩ (Nat.le_of_ble_eq_true rfl) (Nat.le_of_ble_eq_true rfl) dd_X8_first_0.2.2.2.2.2.2.2.2.2.2.2.2.1
    · replace hR := yf_t c_2 hR
      refine xr_sipush (n := 22) (v := 999) C dd_X8_first_0.2.2.2.2.2.2.2.2.2.1 rfl rfl ?_
      refine xr_goto (tgt := 28) C dd_X8_first_0.2.2.2.2.2.2.2.2.2.2.1 rfl ?_
      obtain rfl := Option.some.inj hR
      exact ret 999 ⟨rfl, rfl⟩ (Nat.le_of_ble_eq_true rfl) (Nat.le_of_ble_eq_true rfl) dd_X8_first_0.2.2.2.2.2.2.2.2.2.2.2.2.1
  · replace hR := yf_t c_1 hR
    refine xr_iconst (n := 8) (v := 0) C dd_X8_first_0.2.2.2.1 rfl rfl ?_
    refine xr_goto (tgt := 28) C dd_X8_first_0.2.2.2.2.1 rfl ?_
    obtain rfl := Option.some.inj hR
    exact ret 0 ⟨rfl, rfl⟩ (Nat.le_of_ble_eq_true rfl) (Nat.le_of_ble_eq_true rfl) dd_X8_first_0.2.2.2.2.2.2.2.2.2.2.2.2.1
theorem dd_X8_with_0 : dk_R cX8_with [(0, .aload_n 0, 1), (1, .getfield 33, 3), (4, .ifCond .ne 11, 3), (7, .iload_n 1, 1), (8, .iload_n 2, 1), (9, .iload_n 3, 1), (10, .imul, 1), (11, .iadd, 1), (12, .goto 30, 3), (15, .aload_n 0, 1), (16, .getfield 33, 3), (19, .iconst 1, 1), (20, .if_icmp .ne 13, 3), (23, .iload_n 1, 1), (24, .iload_n 2, 1), (25, .iload_n 3, 1)] := dk_use _ _ (by decide +kernel)
theorem dd_X8_with_1 : dk_R cX8_with [(26, .iadd, 1), (27, .invokestatic 53, 3), (30, .goto 12, 3), (33, .iload_n 1, 1), (34, .iload_n 2, 1), (35, .iload_n 3, 1), (36, .invokestatic 53, 3), (39, .invokestatic 59, 3), (42, .ireturn, 1)] := dk_use _ _ (by decide +kernel)
def fX8_with (wg : Int32) (i1 : Int32) (i2 : Int32) (i3 : Int32) : Option (Int32) := (if wg = 0 then some (i1 + (i2 * i3)) else (if wg = 1 then some (xn_min i1 (i2 + i3)) else some (xn_max i1 (xn_min i2 i3))))
abbrev hX8_with : Cond := .code yX8_with cX8_with 4 (some .int)
theorem mX8_with : yM yX8_with hX8_with 3 := ⟨u_1473, u_65, by decide +kernel, by decide +kernel, by decide +kernel⟩
set_option maxHeartbeats 4000000 in
set_option maxRecDepth 100000 in
theorem kX8_with (l : Launch) (D : va_G) (cy : Nat → ClassId) (w : Nat) (wr : Int32) (wk : Int32) (wc : Int32) (wg : Int32) (ws : Int32) (wa : Nat) (wb : Nat) (i1 : Int32) (i2 : Int32) (i3 : Int32) {res : Int32} (hR : fX8_with wg i1 i2 i3 = some res) : YM l D cy yX8_with hX8_with 1 0 0 [.ref w, .int i1, .int i2, .int i3] [[(w, .inr (10, [.int wr, .int wk, .int wc, .int wg, .int ws, .ref wa, .ref wb]))]] (fun v u => v = some (.int res) ∧ u = [[(w, .inr (10, [.int wr, .int wk, .int wc, .int wg, .int ws, .ref wa, .ref wb]))]]) := by
  unfold fX8_with at hR
  refine YM.ofI (cc := cX8_with) (maxL := 4) (ret := (some .int)) (by decide +kernel) rfl (Nat.le_of_ble_eq_true rfl) [(0, .ref w), (1, .int i1), (2, .int i2), (3, .int i3)] rfl rfl (fun p e s m args below meth c A H0 Q C hnm ret => ?_)
  refine xr_aload_n (n := 1) (j := 0) C dd_X8_with_0.1 rfl rfl ?_
  refine xr_get (n := 4) C 0 rfl rfl 3 (by decide) in_X8 u_1206 rfl (v := .int wg) rfl dd_X8_with_0.2.1 rfl ?_
  refine xr_if_ne (tgt := 15) (n := 7) C dd_X8_with_0.2.2.1 rfl rfl (fun c_1 => ?_) (fun c_1 => ?_)
  · replace hR := yf_f c_1 hR
    refine xr_aload_n (n := 16) (j := 0) C dd_X8_with_0.2.2.2.2.2.2.2.2.2.1 rfl rfl ?_
    refine xr_get (n := 19) C 0 rfl rfl 3 (by decide) in_X8 u_1206 rfl (v := .int wg) rfl dd_X8_with_0.2.2.2.2.2.2.2.2.2.2.1 rfl ?_
    refine xr_iconst (n := 20) (v := 1) C dd_X8_with_0.2.2.2.2.2.2.2.2.2.2.2.1 rfl rfl ?_
    refine xr_icmp_ne (tgt := 33) (n := 23) C dd_X8_with_0.2.2.2.2.2.2.2.2.2.2.2.2.1 rfl rfl (fun c_2 => ?_) (fun c_2 => ?_)
    · replace hR := yf_f c_2 hR
      refine xr_iload_n (n := 34) (j := 1) C dd_X8_with_1.2.2.2.1 rfl rfl ?_
      refine xr_iload_n (n := 35) (j := 2) C dd_X8_with_1.2.2.2.2.1 rfl rfl ?_
      refine xr_iload_n (n := 36) (j := 3) C dd_X8_with_1.2.2.2.2.2.1 rfl rfl ?_
      refine xr_mmin (n := 39) C u_1474 u_438 u_74 u_439 (Nat.le_of_ble_eq_true rfl) (Nat.le_of_ble_eq_true rfl) (Nat.le_of_ble_eq_true rfl) (Nat.le_of_ble_eq_true rfl) dd_X8_with_1.2.2.2.2.2.2.1 rfl ?_
      refine xr_mmax (n := 42) C u_1475 u_445 u_74 u_446 (Nat.le_of_ble_eq_true rfl) (Nat.le_of_ble_eq_true rfl) (Nat.le_of_ble_eq_true rfl) (Nat.le_of_ble_eq_true rfl) dd_X8_with_1.2.2.2.2.2.2.2.1 rfl ?_
      obtain rfl := Option.some.inj hR
      exact ret (xn_max i1 (xn_min i2 i3)) ⟨rfl, rfl⟩ (Nat.le_of_ble_eq_true rfl) (Nat.le_of_ble_eq_true rfl) dd_X8_with_1.2.2.2.2.2.2.2.2.1
    · replace hR := yf_t c_2 hR
      refine xr_iload_n (n := 24) (j := 1) C dd_X8_with_0.2.2.2.2.2.2.2.2.2.2.2.2.2.1 rfl rfl ?_
      refine xr_iload_n (n := 25) (j := 2) C dd_X8_with_0.2.2.2.2.2.2.2.2.2.2.2.2.2.2.1 rfl rfl ?_
      refine xr_iload_n (n := 26) (j := 3) C dd_X8_with_0.2.2.2.2.2.2.2.2.2.2.2.2.2.2.2.1 rfl rfl ?_
      refine xr_iadd (n := 27) C dd_X8_with_1.1 rfl ?_
      refine xr_mmin (n := 30) C u_1474 u_438 u_74 u_439 (Nat.le_of_ble_eq_true rfl) (Nat.le_of_ble_eq_true rfl) (Nat.le_of_ble_eq_true rfl) (Nat.le_of_ble_eq_true rfl) dd_X8_with_1.2.1 rfl ?_
      refine xr_goto (tgt := 42) C dd_X8_with_1.2.2.1 rfl ?_
      obtain rfl := Option.some.inj hR
      exact ret (xn_min i1 (i2 + i3)) ⟨rfl, rfl⟩ (Nat.le_of_ble_eq_true rfl) (Nat.le_of_ble_eq_true rfl) dd_X8_with_1.2.2.2.2.2.2.2.2.1
  · replace hR := yf_t c_1 hR
    refine xr_iload_n (n := 8) (j := 1) C dd_X8_with_0.2.2.2.1 rfl rfl ?_
    refine xr_iload_n (n := 9) (j := 2) C dd_X8_with_0.2.2.2.2.1 rfl rfl ?_
    refine xr_iload_n (n := 10) (j := 3) C dd_X8_with_0.2.2.2.2.2.1 rfl rfl ?_
    refine xr_imul (n := 11) C dd_X8_with_0.2.2.2.2.2.2.1 rfl ?_
    refine xr_iadd (n := 12) C dd_X8_with_0.2.2.2.2.2.2.2.1 rfl ?_
    refine xr_goto (tgt := 42) C dd_X8_with_0.2.2.2.2.2.2.2.2.1 rfl ?_
    obtain rfl := Option.some.inj hR
    exact ret (i1 + (i2 * i3)) ⟨rfl, rfl⟩ (Nat.le_of_ble_eq_true rfl) (Nat.le_of_ble_eq_true rfl) dd_X8_with_1.2.2.2.2.2.2.2.2.1
theorem dd_X8_plain_0 : dk_R cX8_plain [(0, .aload_n 0, 1), (1, .invokevirtual 62, 3), (4, .istore_n 3, 1), (5, .iconst 0, 1), (6, .istore 4, 2), (8, .iload 4, 2), (10, .aload_n 0, 1), (11, .getfield 36, 3), (14, .if_icmp .ge 29, 3), (17, .aload_n 0, 1), (18, .iload_n 3, 1), (19, .aload_n 0, 1), (20, .iload_n 1, 1), (21, .iload 4, 2), (23, .invokevirtual 65, 3), (26, .aload_n 0, 1)] := dk_use _ _ (by decide +kernel)
theorem dd_X8_plain_1 : dk_R cX8_plain [(27, .iload 4, 2), (29, .iload_n 2, 1), (30, .invokevirtual 67, 3), (33, .invokevirtual 69, 3), (36, .istore_n 3, 1), (37, .iinc 4 1, 3), (40, .goto (-32), 3), (43, .iload_n 3, 1), (44, .ireturn, 1)] := dk_use _ _ (by decide +kernel)
def fX8_plain (wr : Int32) (wk : Int32) (wc : Int32) (wg : Int32) (wan : Nat) (wak : Nat) (waG : Nat → Nat → Int32) (wbn : Nat) (wbk : Nat) (wbG : Nat → Nat → Int32) (i1 : Int32) (i2 : Int32) : Option (Int32) := ((fX8_first wg).bind fun x_1 => ((wl (S := Int32 × Int32) (B := Int32 × Int32) (fun s_5 => (if wk ≤ s_5.2 then some (.inr (s_5.1, s_5.2)) else ((fX8_a wr wan wak waG i1 s_5.2).bind fun x_8 => ((fX8_b wc wbn wbk wbG s_5.2 i2).bind fun x_12 => ((fX8_with wg s_5.1 x_8 x_12).bind fun x_16 => some (.inl (x_16, s_5.2 + 1))))))) yFuel (x_1, 0)).bind fun b_5 => some b_5.1))
abbrev hX8_plain : Cond := .code yX8_plain cX8_plain 5 (some .int)
theorem mX8_plain : yM yX8_plain hX8_plain 2 := ⟨u_1542, u_65, by decide +kernel, by decide +kernel, by decide +kernel⟩
set_option maxHeartbeats 4000000 in
set_option maxRecDepth 100000 in
theorem kX8_plain (l : Launch) (D : va_G) (cy : Nat → ClassId) (w : Nat) (wr : Int32) (wk : Int32) (wc : Int32) (wg : Int32) (ws : Int32) (wa : Nat) (wb : Nat) (wad : Nat → Nat) (wan : Nat) (wak : Nat) (waG : Nat → Nat → Int32) (wbd : Nat → Nat) (wbn : Nat) (wbk : Nat) (wbG : Nat → Nat → Int32) (i1 : Int32) (i2 : Int32) {res : Int32} (hR : fX8_plain wr wk wc wg wan wak waG wbn wbk wbG i1 i2 = some res) : YM l D cy yX8_plain hX8_plain 2 0 0 [.ref w, .int i1, .int i2] [[(w, .inr (10, [.int wr, .int wk, .int wc, .int wg, .int ws, .ref wa, .ref wb]))], [(wa, .inl (cy 3, wan, .inr (.inr (.inr (.inr (yad wad))))))], xg_rows wad wan (cy 1) wak waG, [(wb, .inl (cy 3, wbn, .inr (.inr (.inr (.inr (yad wbd))))))], xg_rows wbd wbn (cy 1) wbk wbG] (fun v u => v = some (.int res) ∧ u = [[(w, .inr (10, [.int wr, .int wk, .int wc, .int wg, .int ws, .ref wa, .ref wb]))], [(wa, .inl (cy 3, wan, .inr (.inr (.inr (.inr (yad wad))))))], xg_rows wad wan (cy 1) wak waG, [(wb, .inl (cy 3, wbn, .inr (.inr (.inr (.inr (yad wbd))))))], xg_rows wbd wbn (cy 1) wbk wbG]) := by
  unfold fX8_plain at hR
  refine YM.ofI (cc := cX8_plain) (maxL := 5) (ret := (some .int)) (by decide +kernel) rfl (Nat.le_of_ble_eq_true rfl) [(0, .ref w), (1, .int i1), (2, .int i2)] rfl rfl (fun p e s m args below meth c A H0 Q C hnm ret => ?_)
  refine xr_aload_n (n := 1) (j := 0) C dd_X8_plain_0.1 rfl rfl ?_
  obtain ⟨x_1, hx_1, hR⟩ := yf_b hR
  refine xr_callVp (n := 4) (As := []) (rest := []) C (kX8_first l D cy (w := w) (wr := wr) (wk := wk) (wc := wc) (wg := wg) (ws := ws) (wa := wa) (wb := wb) hx_1) mX8_first u_1543 u_1415 u_1416 0 rfl rfl 5 [0] [1, 2, 3, 4] rfl (by decide +kernel) rfl rfl rfl rfl (Nat.le_of_ble_eq_true rfl) (Nat.le_of_ble_eq_true rfl) (Nat.le_of_ble_eq_true rfl) (Nat.le_of_ble_eq_true rfl) (Nat.le_of_ble_eq_true rfl) dd_X8_plain_0.2.1 rfl (fun _ _ hp => hp.2) (fun v_2 hp_4 => ?_)
  obtain ⟨rfl, -⟩ := hp_4
  refine xr_st (st' := [.int x_1]) rfl ?_
  refine xr_istore_n (n := 5) C [(3, .int x_1), (0, .ref w), (1, .int i1), (2, .int i2)] dd_X8_plain_0.2.2.1 (by decide) rfl rfl ?_
  refine xr_iconst (n := 6) (v := 0) C dd_X8_plain_0.2.2.2.1 rfl rfl ?_
  refine xr_istore (n := 8) C [(4, .int 0), (3, .int x_1), (0, .ref w), (1, .int i1), (2, .int i2)] dd_X8_plain_0.2.2.2.2.1 (by decide) rfl rfl ?_
  refine xr_lv (lv' := [(0, .ref w), (1, .int i1), (2, .int i2), (3, .int x_1), (4, .int 0)]) [2, 3, 4, 1, 0] rfl ?_
  obtain ⟨b_5, hb_5, hR⟩ := yf_b hR
  have K_5 : X p l e (yR 2 0 0) s m args below meth c D A H0 5 Q [[(w, .inr (10, [.int wr, .int wk, .int wc, .int wg, .int ws, .ref wa, .ref wb]))], [(wa, .inl (cy 3, wan, .inr (.inr (.inr (.inr (yad wad))))))], xg_rows wad wan (cy 1) wak waG, [(wb, .inl (cy 3, wbn, .inr (.inr (.inr (.inr (yad wbd))))))], xg_rows wbd wbn (cy 1) wbk wbG] 0 0 [(3, .int b_5.1)] 43 [] := by
    refine xr_iload_n (n := 44) (j := 0) C dd_X8_plain_1.2.2.2.2.2.2.2.1 rfl rfl ?_
    obtain rfl := Option.some.inj hR
    exact ret b_5.1 ⟨rfl, rfl⟩ (Nat.le_of_ble_eq_true rfl) (Nat.le_of_ble_eq_true rfl) dd_X8_plain_1.2.2.2.2.2.2.2.2.1
  refine y_loop (P := fun (s_5 : Int32 × Int32) => X p l e (yR 2 0 0) s m args below meth c D A H0 5 Q [[(w, .inr (10, [.int wr, .int wk, .int wc, .int wg, .int ws, .ref wa, .ref wb]))], [(wa, .inl (cy 3, wan, .inr (.inr (.inr (.inr (yad wad))))))], xg_rows wad wan (cy 1) wak waG, [(wb, .inl (cy 3, wbn, .inr (.inr (.inr (.inr (yad wbd))))))], xg_rows wbd wbn (cy 1) wbk wbG] 0 0 [(0, .ref w), (1, .int i1), (2, .int i2), (3, .int s_5.1), (4, .int s_5.2)] 8 []) ?_ _ (x_1, 0) hb_5
  intro s_5 o_5 ho_5 hk_5 hx_5
  refine xr_iload (n := 10) (j := 4) C dd_X8_plain_0.2.2.2.2.2.1 rfl rfl ?_
  refine xr_aload_n (n := 11) (j := 0) C dd_X8_plain_0.2.2.2.2.2.2.1 rfl rfl ?_
  refine xr_get (n := 14) C 0 rfl rfl 1 (by decide) in_X8 u_1203 rfl (v := .int wk) rfl dd_X8_plain_0.2.2.2.2.2.2.2.1 rfl ?_
  refine xr_icmp_ge (tgt := 43) (n := 17) C dd_X8_plain_0.2.2.2.2.2.2.2.2.1 rfl rfl (fun c_6 => ?_) (fun c_6 => ?_)
  · replace ho_5 := yf_t c_6 ho_5
    refine xr_lv (lv' := [(3, .int s_5.1)]) [3] rfl ?_
    have e_7 := hx_5 _ (Option.some.inj ho_5).symm
    subst e_7
    exact K_5
  · replace ho_5 := yf_f c_6 ho_5
    refine xr_aload_n (n := 18) (j := 0) C dd_X8_plain_0.2.2.2.2.2.2.2.2.2.1 rfl rfl ?_
    refine xr_iload_n (n := 19) (j := 3) C dd_X8_plain_0.2.2.2.2.2.2.2.2.2.2.1 rfl rfl ?_
    refine xr_aload_n (n := 20) (j := 0) C dd_X8_plain_0.2.2.2.2.2.2.2.2.2.2.2.1 rfl rfl ?_
    refine xr_iload_n (n := 21) (j := 1) C dd_X8_plain_0.2.2.2.2.2.2.2.2.2.2.2.2.1 rfl rfl ?_
    refine xr_iload (n := 23) (j := 4) C dd_X8_plain_0.2.2.2.2.2.2.2.2.2.2.2.2.2.1 rfl rfl ?_
    obtain ⟨x_8, hx_8, ho_5⟩ := yf_b ho_5
    refine xr_callVp (n := 26) (As := [.int i1, .int s_5.2]) (rest := [.int s_5.1, .ref w]) C (kX8_a l D cy (w := w) (wr := wr) (wk := wk) (wc := wc) (wg := wg) (ws := ws) (wa := wa) (wb := wb) (wad := wad) (wan := wan) (wak := wak) (waG := waG) (i1 := i1) (i2 := s_5.2) hx_8) mX8_a u_1544 u_1463 u_1464 0 rfl rfl 5 [0, 1, 2] [3, 4] rfl (by decide +kernel) rfl rfl rfl rfl (Nat.le_of_ble_eq_true rfl) (Nat.le_of_ble_eq_true rfl) (Nat.le_of_ble_eq_true rfl) (Nat.le_of_ble_eq_true rfl) (Nat.le_of_ble_eq_true rfl) dd_X8_plain_0.2.2.2.2.2.2.2.2.2.2.2.2.2.2.1 rfl (fun _ _ hp => hp.2) (fun v_9 hp_11 => ?_)
    obtain ⟨rfl, -⟩ := hp_11
    refine xr_st (st' := [.int x_8, .int s_5.1, .ref w]) rfl ?_
    refine xr_aload_n (n := 27) (j := 0) C dd_X8_plain_0.2.2.2.2.2.2.2.2.2.2.2.2.2.2.2.1 rfl rfl ?_
    refine xr_iload (n := 29) (j := 4) C dd_X8_plain_1.1 rfl rfl ?_
    refine xr_iload_n (n := 30) (j := 2) C dd_X8_plain_1.2.1 rfl rfl ?_
    obtain ⟨x_12, hx_12, ho_5⟩ := yf_b ho_5
    refine xr_callVp (n := 33) (As := [.int s_5.2, .int i2]) (rest := [.int x_8, .int s_5.1, .ref w]) C (kX8_b l D cy (w := w) (wr := wr) (wk := wk) (wc := wc) (wg := wg) (ws := ws) (wa := wa) (wb := wb) (wbd := wbd) (wbn := wbn) (wbk := wbk) (wbG := wbG) (i1 := s_5.2) (i2 := i2) hx_12) mX8_b u_1545 u_1467 u_1468 0 rfl rfl 5 [0, 3, 4] [1, 2] rfl (by decide +kernel) rfl rfl rfl rfl (Nat.le_of_ble_eq_true rfl) (Nat.le_of_ble_eq_true rfl) (Nat.le_of_ble_eq_true rfl) (Nat.le_of_ble_eq_true rfl) (Nat.le_of_ble_eq_true rfl) dd_X8_plain_1.2.2.1 rfl (fun _ _ hp => hp.2) (fun v_13 hp_15 => ?_)
    obtain ⟨rfl, -⟩ := hp_15
    refine xr_st (st' := [.int x_12, .int x_8, .int s_5.1, .ref w]) rfl ?_
    obtain ⟨x_16, hx_16, ho_5⟩ := yf_b ho_5
    refine xr_callVp (n := 36) (As := [.int s_5.1, .int x_8, .int x_12]) (rest := []) C (kX8_with l D cy (w := w) (wr := wr) (wk := wk) (wc := wc) (wg := wg) (ws := ws) (wa := wa) (wb := wb) (i1 := s_5.1) (i2 := x_8) (i3 := x_12) hx_16) mX8_with u_1546 u_1471 u_1472 0 rfl rfl 5 [0] [1, 2, 3, 4] rfl (by decide +kernel) rfl rfl rfl rfl (Nat.le_of_ble_eq_true rfl) (Nat.le_of_ble_eq_true rfl) (Nat.le_of_ble_eq_true rfl) (Nat.le_of_ble_eq_true rfl) (Nat.le_of_ble_eq_true rfl) dd_X8_plain_1.2.2.2.1 rfl (fun _ _ hp => hp.2) (fun v_17 hp_19 => ?_)
    obtain ⟨rfl, -⟩ := hp_19
    refine xr_st (st' := [.int x_16]) rfl ?_
    refine xr_istore_n (n := 37) C [(3, .int x_16), (0, .ref w), (1, .int i1), (2, .int i2), (4, .int s_5.2)] dd_X8_plain_1.2.2.2.2.1 (by decide) rfl rfl ?_
    refine xr_iinc (j := 4) (v := s_5.2 + 1) (n := 40) C [(4, .int (s_5.2 + 1)), (3, .int x_16), (0, .ref w), (1, .int i1), (2, .int i2)] dd_X8_plain_1.2.2.2.2.2.1 rfl rfl (by decide) rfl rfl ?_
    refine xr_goto (tgt := 8) C dd_X8_plain_1.2.2.2.2.2.2.1 rfl ?_
    refine xr_lv (lv' := [(0, .ref w), (1, .int i1), (2, .int i2), (3, .int x_16), (4, .int (s_5.2 + 1))]) [2, 3, 4, 1, 0] rfl ?_
    exact hk_5 (x_16, s_5.2 + 1) (Option.some.inj ho_5).symm
theorem dd_X9_thrown_0 : dk_R cX9_thrown [(0, .aload_n 0, 1), (1, .getfield 64, 3), (4, .ireturn, 1)] := dk_use _ _ (by decide +kernel)
def fX9_thrown_i (gth : Int32) : Option (Int32) := some gth
abbrev hX9_thrown : Cond := .code yX9_thrown cX9_thrown 1 (some .int)
theorem mX9_thrown : yM yX9_thrown hX9_thrown 0 := ⟨u_1293, u_64, by decide +kernel, by decide +kernel, by decide +kernel⟩
set_option maxHeartbeats 4000000 in
set_option maxRecDepth 100000 in
theorem kX9_thrown_i (l : Launch) (D : va_G) (cy : Nat → ClassId) (g : Nat) (gth : Int32) (gw : Nat) (gB : Nat) (gK : Nat) (gU : Nat) (gS : Nat) (gbe : Int32) (gwo : Int32) (gta : Int64) (glr : Int32) (glc : Int32) (gti : Int32) (ggo : Int32) (gR : Nat) (gch : Int32) (gD : Nat) {res : Int32} (hR : fX9_thrown_i gth = some res) : YM l D cy yX9_thrown hX9_thrown 1 0 0 [.ref g] [[(g, .inr (11, [.int gth, .ref gw, .ref gB, .ref gK, .ref gU, .ref gS, .int gbe, .int gwo, .long gta, .null, .int glr, .int glc, .int gti, .int ggo, .ref gR, .int gch, .ref gD]))]] (fun v u => v = some (.int res) ∧ u = [[(g, .inr (11, [.int gth, .ref gw, .ref gB, .ref gK, .ref gU, .ref gS, .int gbe, .int gwo, .long gta, .null, .int glr, .int glc, .int gti, .int ggo, .ref gR, .int gch, .ref gD]))]]) := by
  unfold fX9_thrown_i at hR
  refine YM.ofI (cc := cX9_thrown) (maxL := 1) (ret := (some .int)) (by decide +kernel) rfl (Nat.le_of_ble_eq_true rfl) [(0, .ref g)] rfl rfl (fun p e s m args below meth c A H0 Q C hnm ret => ?_)
  refine xr_aload_n (n := 1) (j := 0) C dd_X9_thrown_0.1 rfl rfl ?_
  refine xr_get (n := 4) C 0 rfl rfl 0 (by decide) in_X9 u_1237 rfl (v := .int gth) rfl dd_X9_thrown_0.2.1 rfl ?_
  obtain rfl := Option.some.inj hR
  exact ret gth ⟨rfl, rfl⟩ (Nat.le_of_ble_eq_true rfl) (Nat.le_of_ble_eq_true rfl) dd_X9_thrown_0.2.2.1
def fX9_thrown_r (gth : Int32) : Option (Int32) := some gth
set_option maxHeartbeats 4000000 in
set_option maxRecDepth 100000 in
theorem kX9_thrown_r (l : Launch) (D : va_G) (cy : Nat → ClassId) (g : Nat) (gth : Int32) (gw : Nat) (gB : Nat) (gK : Nat) (gU : Nat) (gS : Nat) (gbe : Int32) (gwo : Int32) (gta : Int64) (gn : Nat) (glr : Int32) (glc : Int32) (gti : Int32) (ggo : Int32) (gR : Nat) (gch : Int32) (gD : Nat) {res : Int32} (hR : fX9_thrown_r gth = some res) : YM l D cy yX9_thrown hX9_thrown 1 0 0 [.ref g] [[(g, .inr (11, [.int gth, .ref gw, .ref gB, .ref gK, .ref gU, .ref gS, .int gbe, .int gwo, .long gta, .ref gn, .int glr, .int glc, .int gti, .int ggo, .ref gR, .int gch, .ref gD]))]] (fun v u => v = some (.int res) ∧ u = [[(g, .inr (11, [.int gth, .ref gw, .ref gB, .ref gK, .ref gU, .ref gS, .int gbe, .int gwo, .long gta, .ref gn, .int glr, .int glc, .int gti, .int ggo, .ref gR, .int gch, .ref gD]))]]) := by
  unfold fX9_thrown_r at hR
  refine YM.ofI (cc := cX9_thrown) (maxL := 1) (ret := (some .int)) (by decide +kernel) rfl (Nat.le_of_ble_eq_true rfl) [(0, .ref g)] rfl rfl (fun p e s m args below meth c A H0 Q C hnm ret => ?_)
  refine xr_aload_n (n := 1) (j := 0) C dd_X9_thrown_0.1 rfl rfl ?_
  refine xr_get (n := 4) C 0 rfl rfl 0 (by decide) in_X9 u_1237 rfl (v := .int gth) rfl dd_X9_thrown_0.2.1 rfl ?_
  obtain rfl := Option.some.inj hR
  exact ret gth ⟨rfl, rfl⟩ (Nat.le_of_ble_eq_true rfl) (Nat.le_of_ble_eq_true rfl) dd_X9_thrown_0.2.2.1
theorem dd_X9_refuse_0 : dk_R cX9_refuse [(0, .iload_n 1, 1), (1, .ifCond .eq 15, 3), (4, .aload_n 0, 1), (5, .getfield 64, 3), (8, .ifCond .ne 8, 3), (11, .aload_n 0, 1), (12, .iload_n 2, 1), (13, .putfield 64, 3), (16, .aload_n 0, 1), (17, .getfield 64, 3), (20, .ifCond .le 7, 3), (23, .iconst 1, 1), (24, .goto 4, 3), (27, .iconst 0, 1), (28, .ireturn, 1)] := dk_use _ _ (by decide +kernel)
def fX9_refuse11_i  : Option (Int32) := some 1
abbrev hX9_refuse : Cond := .code yX9_refuse cX9_refuse 3 (some .boolean)
theorem mX9_refuse : yM yX9_refuse hX9_refuse 2 := ⟨u_1308, u_64, by decide +kernel, by decide +kernel, by decide +kernel⟩
set_option maxHeartbeats 4000000 in
set_option maxRecDepth 100000 in
theorem kX9_refuse11_i (l : Launch) (D : va_G) (cy : Nat → ClassId) (g : Nat) (gw : Nat) (gB : Nat) (gK : Nat) (gU : Nat) (gS : Nat) (gbe : Int32) (gwo : Int32) (gta : Int64) (glr : Int32) (glc : Int32) (gti : Int32) (ggo : Int32) (gR : Nat) (gch : Int32) (gD : Nat) {res : Int32} (hR : fX9_refuse11_i  = some res) : YM l D cy yX9_refuse hX9_refuse 1 0 0 [.ref g, .int 1, .int 1] [[(g, .inr (11, [.int 0, .ref gw, .ref gB, .ref gK, .ref gU, .ref gS, .int gbe, .int gwo, .long gta, .null, .int glr, .int glc, .int gti, .int ggo, .ref gR, .int gch, .ref gD]))]] (fun v u => v = some (.int res) ∧ u = [[(g, .inr (11, [.int 1, .ref gw, .ref gB, .ref gK, .ref gU, .ref gS, .int gbe, .int gwo, .long gta, .null, .int glr, .int glc, .int gti, .int ggo, .ref gR, .int gch, .ref gD]))]]) := by
  unfold fX9_refuse11_i at hR
  refine YM.ofZ (cc := cX9_refuse) (maxL := 3) (ret := (some .boolean)) (by decide +kernel) rfl (Nat.le_of_ble_eq_true rfl) [(0, .ref g), (1, .int 1), (2, .int 1)] rfl .boolean rfl (fun p e s m args below meth c A H0 Q C hnm ret => ?_)
  refine xr_iload_n (n := 1) (j := 1) C dd_X9_refuse_0.1 rfl rfl ?_
  refine xr_if_eq (tgt := 16) (n := 4) C dd_X9_refuse_0.2.1 rfl rfl (fun c_1 => absurd c_1 (by decide)) (fun _ => ?_)
  refine xr_aload_n (n := 5) (j := 0) C dd_X9_refuse_0.2.2.1 rfl rfl ?_
  refine xr_get (n := 8) C 0 rfl rfl 0 (by decide) in_X9 u_1237 rfl (v := .int 0) rfl dd_X9_refuse_0.2.2.2.1 rfl ?_
  refine xr_if_ne (tgt := 16) (n := 11) C dd_X9_refuse_0.2.2.2.2.1 rfl rfl (fun c_2 => absurd c_2 (by decide)) (fun _ => ?_)
  refine xr_aload_n (n := 12) (j := 0) C dd_X9_refuse_0.2.2.2.2.2.1 rfl rfl ?_
  refine xr_iload_n (n := 13) (j := 2) C dd_X9_refuse_0.2.2.2.2.2.2.1 rfl rfl ?_
  refine xr_put (n := 16) C 0 rfl rfl 0 (by decide) in_X9 tyX9 tyX9_ok nmX9 u_1237 rfl rfl rfl rfl (Nat.le_of_ble_eq_true rfl) [[(g, .inr (11, [.int 1, .ref gw, .ref gB, .ref gK, .ref gU, .ref gS, .int gbe, .int gwo, .long gta, .null, .int glr, .int glc, .int gti, .int ggo, .ref gR, .int gch, .ref gD]))]] rfl rfl dd_X9_refuse_0.2.2.2.2.2.2.2.1 ?_
  refine xr_aload_n (n := 17) (j := 0) C dd_X9_refuse_0.2.2.2.2.2.2.2.2.1 rfl rfl ?_
  refine xr_get (n := 20) C 0 rfl rfl 0 (by decide) in_X9 u_1237 rfl (v := .int 1) rfl dd_X9_refuse_0.2.2.2.2.2.2.2.2.2.1 rfl ?_
  refine xr_if_le (tgt := 27) (n := 23) C dd_X9_refuse_0.2.2.2.2.2.2.2.2.2.2.1 rfl rfl (fun c_3 => absurd c_3 (by decide)) (fun _ => ?_)
  refine xr_iconst (n := 24) (v := 1) C dd_X9_refuse_0.2.2.2.2.2.2.2.2.2.2.2.1 rfl rfl ?_
  refine xr_goto (tgt := 28) C dd_X9_refuse_0.2.2.2.2.2.2.2.2.2.2.2.2.1 rfl ?_
  obtain rfl := Option.some.inj hR
  exact ret 1 (by decide) ⟨rfl, rfl⟩ (Nat.le_of_ble_eq_true rfl) (Nat.le_of_ble_eq_true rfl) dd_X9_refuse_0.2.2.2.2.2.2.2.2.2.2.2.2.2.2.1
