theorem u_1204 : Cond.fieldLink RX8 23 "PulsemeshModel$Work" "c" "I" ∈ yU := yu_tables_1_5 188 (by decide +kernel) (by decide +kernel)
theorem u_1394 : Cond.code yX8_columns cX8_columns 1 (some .int) ∈ yU := yu_tables_1_6 138 (by decide +kernel) (by decide +kernel)
theorem u_1210 : Cond.fieldLink RX8 26 "PulsemeshModel$Work" "a" "[[I" ∈ yU := yu_tables_1_5 194 (by decide +kernel) (by decide +kernel)
theorem u_1465 : Cond.code yX8_a cX8_a 8 (some .int) ∈ yU := yu_tables_1_6 209 (by decide +kernel) (by decide +kernel)
theorem u_1212 : Cond.fieldLink RX8 30 "PulsemeshModel$Work" "b" "[[I" ∈ yU := yu_tables_1_5 196 (by decide +kernel) (by decide +kernel)
theorem u_1469 : Cond.code yX8_b cX8_b 8 (some .int) ∈ yU := yu_tables_1_6 213 (by decide +kernel) (by decide +kernel)
theorem u_1206 : Cond.fieldLink RX8 33 "PulsemeshModel$Work" "kind" "I" ∈ yU := yu_tables_1_5 190 (by decide +kernel) (by decide +kernel)
theorem u_1370 : Cond.code yX8_isIdle cX8_isIdle 8 (some .boolean) ∈ yU := yu_tables_1_6 114 (by decide +kernel) (by decide +kernel)
theorem u_1203 : Cond.fieldLink RX8 36 "PulsemeshModel$Work" "k" "I" ∈ yU := yu_tables_1_5 187 (by decide +kernel) (by decide +kernel)
theorem u_1367 : Cond.methodLink RX8 39 yX8_isIdle ∈ yU := yu_tables_1_6 111 (by decide +kernel) (by decide +kernel)
theorem u_1368 : Cond.instanceMethod yX8_isIdle ∈ yU := yu_tables_1_6 112 (by decide +kernel) (by decide +kernel)
theorem u_1369 : Cond.selects RX8 yX8_isIdle yX8_isIdle ∈ yU := yu_tables_1_6 113 (by decide +kernel) (by decide +kernel)
theorem u_1366 : Cond.code yX8_skipped cX8_skipped 3 (some .int) ∈ yU := yu_tables_1_6 110 (by decide +kernel) (by decide +kernel)
theorem u_1363 : Cond.methodLink RX8 43 yX8_skipped ∈ yU := yu_tables_1_6 107 (by decide +kernel) (by decide +kernel)
theorem u_1364 : Cond.instanceMethod yX8_skipped ∈ yU := yu_tables_1_6 108 (by decide +kernel) (by decide +kernel)
theorem u_1365 : Cond.selects RX8 yX8_skipped yX8_skipped ∈ yU := yu_tables_1_6 109 (by decide +kernel) (by decide +kernel)
theorem u_1372 : Cond.methodLink RX8 47 yJ6_bitCount_0f7a4 ∈ yU := yu_tables_1_6 116 (by decide +kernel) (by decide +kernel)
theorem u_1362 : Cond.code yX8_steps cX8_steps 1 (some .int) ∈ yU := yu_tables_1_6 106 (by decide +kernel) (by decide +kernel)
theorem dd_X8_columns_0 : dk_R cX8_columns [(0, .aload_n 0, 1), (1, .getfield 23, 3), (4, .aload_n 0, 1), (5, .getfield 13, 3), (8, .invokestatic 17, 3), (11, .iadd, 1), (12, .ireturn, 1)] := dk_use _ _ (by decide +kernel)
def fX8_columns (wc : Int32) (ws : Int32) : Option (Int32) := ((fX9_one ws).bind fun x_1 => some (wc + x_1))
abbrev hX8_columns : Cond := .code yX8_columns cX8_columns 1 (some .int)
theorem mX8_columns : yM yX8_columns hX8_columns 0 := ⟨u_1394, u_65, by decide +kernel, by decide +kernel, by decide +kernel⟩
set_option maxHeartbeats 4000000 in
set_option maxRecDepth 100000 in
theorem kX8_columns (l : Launch) (D : va_G) (cy : Nat → ClassId) (w : Nat) (wr : Int32) (wk : Int32) (wc : Int32) (wg : Int32) (ws : Int32) (wa : Nat) (wb : Nat) {res : Int32} (hR : fX8_columns wc ws = some res) : YM l D cy yX8_columns hX8_columns 2 0 0 [.ref w] [[(w, .inr (10, [.int wr, .int wk, .int wc, .int wg, .int ws, .ref wa, .ref wb]))]] (fun v u => v = some (.int res) ∧ u = [[(w, .inr (10, [.int wr, .int wk, .int wc, .int wg, .int ws, .ref wa, .ref wb]))]]) := by
  unfold fX8_columns at hR
  refine YM.ofI (cc := cX8_columns) (maxL := 1) (ret := (some .int)) (by decide +kernel) rfl (Nat.le_of_ble_eq_true rfl) [(0, .ref w)] rfl rfl (fun p e s m args below meth c A H0 Q C hnm ret => ?_)
  refine xr_aload_n (n := 1) (j := 0) C dd_X8_columns_0.1 rfl rfl ?_
  refine xr_get (n := 4) C 0 rfl rfl 2 (by decide) in_X8 u_1204 rfl (v := .int wc) rfl dd_X8_columns_0.2.1 rfl ?_
  refine xr_aload_n (n := 5) (j := 0) C dd_X8_columns_0.2.2.1 rfl rfl ?_
  refine xr_get (n := 8) C 0 rfl rfl 4 (by decide) in_X8 u_1208 rfl (v := .int ws) rfl dd_X8_columns_0.2.2.2.1 rfl ?_
  obtain ⟨x_1, hx_1, hR⟩ := yf_b hR
  refine xr_callSNp (n := 11) (As := [.int ws]) (rest := [.int wc]) C (kX9_one l D cy (i1 := ws) hx_1) mX9_one (host := RX9) (List.mem_of_getElem? (i := 60) rfl) u_1313 1 [] [0] rfl (by decide +kernel) rfl rfl rfl rfl (Nat.le_of_ble_eq_true rfl) (Nat.le_of_ble_eq_true rfl) (Nat.le_of_ble_eq_true rfl) (Nat.le_of_ble_eq_true rfl) (Nat.le_of_ble_eq_true rfl) dd_X8_columns_0.2.2.2.2.1 rfl (fun _ _ hp => hp.2) (fun v_2 hp_4 => ?_)
  obtain ⟨rfl, -⟩ := hp_4
  refine xr_st (st' := [.int x_1, .int wc]) rfl ?_
  refine xr_iadd (n := 12) C dd_X8_columns_0.2.2.2.2.2.1 rfl ?_
  obtain rfl := Option.some.inj hR
  exact ret (wc + x_1) ⟨rfl, rfl⟩ (Nat.le_of_ble_eq_true rfl) (Nat.le_of_ble_eq_true rfl) dd_X8_columns_0.2.2.2.2.2.2.1
theorem dd_X8_a_0 : dk_R cX8_a [(0, .iload_n 1, 1), (1, .aload_n 0, 1), (2, .getfield 7, 3), (5, .if_icmp .ge 12, 3), (8, .aload_n 0, 1), (9, .getfield 26, 3), (12, .iload_n 1, 1), (13, .aaload, 1), (14, .iload_n 2, 1), (15, .iaload, 1), (16, .ireturn, 1), (17, .iconst 0, 1), (18, .istore_n 3, 1), (19, .aload_n 0, 1), (20, .getfield 26, 3), (23, .astore 4, 2)] := dk_use _ _ (by decide +kernel)
theorem dd_X8_a_1 : dk_R cX8_a [(25, .aload 4, 2), (27, .arraylength, 1), (28, .istore 5, 2), (30, .iconst 0, 1), (31, .istore 6, 2), (33, .iload 6, 2), (35, .iload 5, 2), (37, .if_icmp .ge 23, 3), (40, .aload 4, 2), (42, .iload 6, 2), (44, .aaload, 1), (45, .astore 7, 2), (47, .iload_n 3, 1), (48, .aload 7, 2), (50, .iload_n 2, 1), (51, .iaload, 1)] := dk_use _ _ (by decide +kernel)
theorem dd_X8_a_2 : dk_R cX8_a [(52, .iadd, 1), (53, .istore_n 3, 1), (54, .iinc 6 1, 3), (57, .goto (-24), 3), (60, .iload_n 3, 1), (61, .ireturn, 1)] := dk_use _ _ (by decide +kernel)
def fX8_a (wr : Int32) (wan : Nat) (wak : Nat) (waG : Nat → Nat → Int32) (i1 : Int32) (i2 : Int32) : Option (Int32) := (if wr ≤ i1 then ((wl (S := Int32 × Int32) (B := Int32 × Int32) (fun s_2 => (if (nI wan) ≤ s_2.2 then some (.inr (s_2.1, s_2.2)) else (if ¬ (s_2.2 < 0 ∨ wan ≤ s_2.2.toNatClampNeg) then (if ¬ (i2 < 0 ∨ wak ≤ i2.toNatClampNeg) then (ylet (s_2.1 + (waG s_2.2.toNatClampNeg i2.toNatClampNeg) : Int32) fun y_7 => some (.inl (y_7, s_2.2 + 1))) else none) else none))) yFuel (0, 0)).bind fun b_2 => some b_2.1) else (if ¬ (i1 < 0 ∨ wan ≤ i1.toNatClampNeg) then (if ¬ (i2 < 0 ∨ wak ≤ i2.toNatClampNeg) then some (waG i1.toNatClampNeg i2.toNatClampNeg) else none) else none))
abbrev hX8_a : Cond := .code yX8_a cX8_a 8 (some .int)
theorem mX8_a : yM yX8_a hX8_a 2 := ⟨u_1465, u_65, by decide +kernel, by decide +kernel, by decide +kernel⟩
set_option maxHeartbeats 4000000 in
set_option maxRecDepth 100000 in
theorem kX8_a (l : Launch) (D : va_G) (cy : Nat → ClassId) (w : Nat) (wr : Int32) (wk : Int32) (wc : Int32) (wg : Int32) (ws : Int32) (wa : Nat) (wb : Nat) (wad : Nat → Nat) (wan : Nat) (wak : Nat) (waG : Nat → Nat → Int32) (i1 : Int32) (i2 : Int32) {res : Int32} (hR : fX8_a wr wan wak waG i1 i2 = some res) : YM l D cy yX8_a hX8_a 1 0 0 [.ref w, .int i1, .int i2] [[(w, .inr (10, [.int wr, .int wk, .int wc, .int wg, .int ws, .ref wa, .ref wb]))], [(wa, .inl (cy 3, wan, .inr (.inr (.inr (.inr (yad wad))))))], xg_rows wad wan (cy 1) wak waG] (fun v u => v = some (.int res) ∧ u = [[(w, .inr (10, [.int wr, .int wk, .int wc, .int wg, .int ws, .ref wa, .ref wb]))], [(wa, .inl (cy 3, wan, .inr (.inr (.inr (.inr (yad wad))))))], xg_rows wad wan (cy 1) wak waG]) := by
  unfold fX8_a at hR
  refine YM.ofI (cc := cX8_a) (maxL := 8) (ret := (some .int)) (by decide +kernel) rfl (Nat.le_of_ble_eq_true rfl) [(0, .ref w), (1, .int i1), (2, .int i2)] rfl rfl (fun p e s m args below meth c A H0 Q C hnm ret => ?_)
  refine xr_iload_n (n := 1) (j := 1) C dd_X8_a_0.1 rfl rfl ?_
  refine xr_aload_n (n := 2) (j := 0) C dd_X8_a_0.2.1 rfl rfl ?_
  refine xr_get (n := 5) C 0 rfl rfl 0 (by decide) in_X8 u_1200 rfl (v := .int wr) rfl dd_X8_a_0.2.2.1 rfl ?_
  refine xr_icmp_ge (tgt := 17) (n := 8) C dd_X8_a_0.2.2.2.1 rfl rfl (fun c_1 => ?_) (fun c_1 => ?_)
  · replace hR := yf_t c_1 hR
    refine xr_iconst (n := 18) (v := 0) C dd_X8_a_0.2.2.2.2.2.2.2.2.2.2.2.1 rfl rfl ?_
    refine xr_istore_n (n := 19) C [(3, .int 0), (0, .ref w), (1, .int i1), (2, .int i2)] dd_X8_a_0.2.2.2.2.2.2.2.2.2.2.2.2.1 (by decide) rfl rfl ?_
    refine xr_aload_n (n := 20) (j := 1) C dd_X8_a_0.2.2.2.2.2.2.2.2.2.2.2.2.2.1 rfl rfl ?_
    refine xr_get (n := 23) C 0 rfl rfl 5 (by decide) in_X8 u_1210 rfl (v := .ref wa) rfl dd_X8_a_0.2.2.2.2.2.2.2.2.2.2.2.2.2.2.1 rfl ?_
    refine xr_astore (n := 25) C [(4, .ref wa), (3, .int 0), (0, .ref w), (1, .int i1), (2, .int i2)] dd_X8_a_0.2.2.2.2.2.2.2.2.2.2.2.2.2.2.2.1 (by decide) rfl rfl ?_
    refine xr_aload (n := 27) (j := 0) C dd_X8_a_1.1 rfl rfl ?_
    refine xr_alen (n := 28) C 1 0 rfl 3 rfl rfl dd_X8_a_1.2.1 rfl ?_
    refine xr_istore (n := 30) C [(5, .int (nI wan)), (4, .ref wa), (3, .int 0), (0, .ref w), (1, .int i1), (2, .int i2)] dd_X8_a_1.2.2.1 (by decide) rfl rfl ?_
    refine xr_iconst (n := 31) (v := 0) C dd_X8_a_1.2.2.2.1 rfl rfl ?_
    refine xr_istore (n := 33) C [(6, .int 0), (5, .int (nI wan)), (4, .ref wa), (3, .int 0), (0, .ref w), (1, .int i1), (2, .int i2)] dd_X8_a_1.2.2.2.2.1 (by decide) rfl rfl ?_
    refine xr_lv (lv' := [(2, .int i2), (3, .int 0), (4, .ref wa), (5, .int (nI wan)), (6, .int 0)]) [6, 3, 2, 1, 0] rfl ?_
    obtain ⟨b_2, hb_2, hR⟩ := yf_b hR
    have K_2 : X p l e (yR 1 0 0) s m args below meth c D A H0 8 Q [[(w, .inr (10, [.int wr, .int wk, .int wc, .int wg, .int ws, .ref wa, .ref wb]))], [(wa, .inl (cy 3, wan, .inr (.inr (.inr (.inr (yad wad))))))], xg_rows wad wan (cy 1) wak waG] 0 0 [(3, .int b_2.1)] 60 [] := by
      refine xr_iload_n (n := 61) (j := 0) C dd_X8_a_2.2.2.2.2.1 rfl rfl ?_
      obtain rfl := Option.some.inj hR
      exact ret b_2.1 ⟨rfl, rfl⟩ (Nat.le_of_ble_eq_true rfl) (Nat.le_of_ble_eq_true rfl) dd_X8_a_2.2.2.2.2.2.1
    refine y_loop (P := fun (s_2 : Int32 × Int32) => X p l e (yR 1 0 0) s m args below meth c D A H0 8 Q [[(w, .inr (10, [.int wr, .int wk, .int wc, .int wg, .int ws, .ref wa, .ref wb]))], [(wa, .inl (cy 3, wan, .inr (.inr (.inr (.inr (yad wad))))))], xg_rows wad wan (cy 1) wak waG] 0 0 [(2, .int i2), (3, .int s_2.1), (4, .ref wa), (5, .int (nI wan)), (6, .int s_2.2)] 33 []) ?_ _ (0, 0) hb_2
    intro s_2 o_2 ho_2 hk_2 hx_2
    refine xr_iload (n := 35) (j := 4) C dd_X8_a_1.2.2.2.2.2.1 rfl rfl ?_
    refine xr_iload (n := 37) (j := 3) C dd_X8_a_1.2.2.2.2.2.2.1 rfl rfl ?_
    refine xr_icmp_ge (tgt := 60) (n := 40) C dd_X8_a_1.2.2.2.2.2.2.2.1 rfl rfl (fun c_3 => ?_) (fun c_3 => ?_)
    · replace ho_2 := yf_t c_3 ho_2
      refine xr_lv (lv' := [(3, .int s_2.1)]) [1] rfl ?_
      have e_4 := hx_2 _ (Option.some.inj ho_2).symm
      subst e_4
      exact K_2
    · replace ho_2 := yf_f c_3 ho_2
      refine xr_aload (n := 42) (j := 2) C dd_X8_a_1.2.2.2.2.2.2.2.2.1 rfl rfl ?_
      refine xr_iload (n := 44) (j := 4) C dd_X8_a_1.2.2.2.2.2.2.2.2.2.1 rfl rfl ?_
      obtain ⟨g_5, ho_2⟩ := yf_g ho_2
      refine xr_aald (n := 45) C 1 0 rfl 3 rfl rfl g_5 rfl dd_X8_a_1.2.2.2.2.2.2.2.2.2.2.1 rfl ?_
      refine xr_astore (n := 47) C [(7, .ref (wad s_2.2.toNatClampNeg)), (2, .int i2), (3, .int s_2.1), (4, .ref wa), (5, .int (nI wan)), (6, .int s_2.2)] dd_X8_a_1.2.2.2.2.2.2.2.2.2.2.2.1 (by decide) rfl rfl ?_
      refine xr_iload_n (n := 48) (j := 2) C dd_X8_a_1.2.2.2.2.2.2.2.2.2.2.2.2.1 rfl rfl ?_
      refine xr_aload (n := 50) (j := 0) C dd_X8_a_1.2.2.2.2.2.2.2.2.2.2.2.2.2.1 rfl rfl ?_
      refine xr_iload_n (n := 51) (j := 1) C dd_X8_a_1.2.2.2.2.2.2.2.2.2.2.2.2.2.2.1 rfl rfl ?_
      obtain ⟨g_6, ho_2⟩ := yf_g ho_2
      refine xr_ialdg (n := 52) C 2 rfl s_2.2.toNatClampNeg (ylt g_5) g_6 dd_X8_a_1.2.2.2.2.2.2.2.2.2.2.2.2.2.2.2.1 rfl ?_
      refine xr_iadd (n := 53) C dd_X8_a_2.1 rfl ?_
      obtain ⟨y_7, ey_7, ho_2⟩ := yf_l ho_2
      refine xr_topI ey_7 ?_
      refine xr_istore_n (n := 54) C [(3, .int y_7), (7, .ref (wad s_2.2.toNatClampNeg)), (2, .int i2), (4, .ref wa), (5, .int (nI wan)), (6, .int s_2.2)] dd_X8_a_2.2.1 (by decide) rfl rfl ?_
      refine xr_iinc (j := 5) (v := s_2.2 + 1) (n := 57) C [(6, .int (s_2.2 + 1)), (3, .int y_7), (7, .ref (wad s_2.2.toNatClampNeg)), (2, .int i2), (4, .ref wa), (5, .int (nI wan))] dd_X8_a_2.2.2.1 rfl rfl (by decide) rfl rfl ?_
      refine xr_goto (tgt := 33) C dd_X8_a_2.2.2.2.1 rfl ?_
      refine xr_lv (lv' := [(2, .int i2), (3, .int y_7), (4, .ref wa), (5, .int (nI wan)), (6, .int (s_2.2 + 1))]) [3, 1, 4, 5, 0] rfl ?_
      exact hk_2 (y_7, s_2.2 + 1) (Option.some.inj ho_2).symm
  · replace hR := yf_f c_1 hR
    refine xr_aload_n (n := 9) (j := 0) C dd_X8_a_0.2.2.2.2.1 rfl rfl ?_
    refine xr_get (n := 12) C 0 rfl rfl 5 (by decide) in_X8 u_1210 rfl (v := .ref wa) rfl dd_X8_a_0.2.2.2.2.2.1 rfl ?_
    refine xr_iload_n (n := 13) (j := 1) C dd_X8_a_0.2.2.2.2.2.2.1 rfl rfl ?_
    obtain ⟨g_8, hR⟩ := yf_g hR
    refine xr_aald (n := 14) C 1 0 rfl 3 rfl rfl g_8 rfl dd_X8_a_0.2.2.2.2.2.2.2.1 rfl ?_
    refine xr_iload_n (n := 15) (j := 2) C dd_X8_a_0.2.2.2.2.2.2.2.2.1 rfl rfl ?_
    obtain ⟨g_9, hR⟩ := yf_g hR
    refine xr_ialdg (n := 16) C 2 rfl i1.toNatClampNeg (ylt g_8) g_9 dd_X8_a_0.2.2.2.2.2.2.2.2.2.1 rfl ?_
    obtain rfl := Option.some.inj hR
    exact ret (waG i1.toNatClampNeg i2.toNatClampNeg) ⟨rfl, rfl⟩ (Nat.le_of_ble_eq_true rfl) (Nat.le_of_ble_eq_true rfl) dd_X8_a_0.2.2.2.2.2.2.2.2.2.2.1
theorem dd_X8_b_0 : dk_R cX8_b [(0, .iload_n 2, 1), (1, .aload_n 0, 1), (2, .getfield 23, 3), (5, .if_icmp .ge 12, 3), (8, .aload_n 0, 1), (9, .getfield 30, 3), (12, .iload_n 1, 1), (13, .aaload, 1), (14, .iload_n 2, 1), (15, .iaload, 1), (16, .ireturn, 1), (17, .iconst 0, 1), (18, .istore_n 3, 1), (19, .aload_n 0, 1), (20, .getfield 30, 3), (23, .iload_n 1, 1)] := dk_use _ _ (by decide +kernel)
theorem dd_X8_b_1 : dk_R cX8_b [(24, .aaload, 1), (25, .astore 4, 2), (27, .aload 4, 2), (29, .arraylength, 1), (30, .istore 5, 2), (32, .iconst 0, 1), (33, .istore 6, 2), (35, .iload 6, 2), (37, .iload 5, 2), (39, .if_icmp .ge 21, 3), (42, .aload 4, 2), (44, .iload 6, 2), (46, .iaload, 1), (47, .istore 7, 2), (49, .iload_n 3, 1), (50, .iload 7, 2)] := dk_use _ _ (by decide +kernel)
theorem dd_X8_b_2 : dk_R cX8_b [(52, .iadd, 1), (53, .istore_n 3, 1), (54, .iinc 6 1, 3), (57, .goto (-22), 3), (60, .iload_n 3, 1), (61, .ireturn, 1)] := dk_use _ _ (by decide +kernel)
def fX8_b (wc : Int32) (wbn : Nat) (wbk : Nat) (wbG : Nat → Nat → Int32) (i1 : Int32) (i2 : Int32) : Option (Int32) := (if wc ≤ i2 then (if ¬ (i1 < 0 ∨ wbn ≤ i1.toNatClampNeg) then ((wl (S := Int32 × Int32) (B := Int32 × Int32) (fun s_3 => (if (nI wbk) ≤ s_3.2 then some (.inr (s_3.1, s_3.2)) else (if ¬ (s_3.2 < 0 ∨ wbk ≤ s_3.2.toNatClampNeg) then (ylet (s_3.1 + (wbG i1.toNatClampNeg s_3.2.toNatClampNeg) : Int32) fun y_7 => some (.inl (y_7, s_3.2 + 1))) else none))) yFuel (0, 0)).bind fun b_3 => some b_3.1) else none) else (if ¬ (i1 < 0 ∨ wbn ≤ i1.toNatClampNeg) then (if ¬ (i2 < 0 ∨ wbk ≤ i2.toNatClampNeg) then some (wbG i1.toNatClampNeg i2.toNatClampNeg) else none) else none))
abbrev hX8_b : Cond := .code yX8_b cX8_b 8 (some .int)
theorem mX8_b : yM yX8_b hX8_b 2 := ⟨u_1469, u_65, by decide +kernel, by decide +kernel, by decide +kernel⟩
set_option maxHeartbeats 4000000 in
set_option maxRecDepth 100000 in
theorem kX8_b (l : Launch) (D : va_G) (cy : Nat → ClassId) (w : Nat) (wr : Int32) (wk : Int32) (wc : Int32) (wg : Int32) (ws : Int32) (wa : Nat) (wb : Nat) (wbd : Nat → Nat) (wbn : Nat) (wbk : Nat) (wbG : Nat → Nat → Int32) (i1 : Int32) (i2 : Int32) {res : Int32} (hR : fX8_b wc wbn wbk wbG i1 i2 = some res) : YM l D cy yX8_b hX8_b 1 0 0 [.ref w, .int i1, .int i2] [[(w, .inr (10, [.int wr, .int wk, .int wc, .int wg, .int ws, .ref wa, .ref wb]))], [(wb, .inl (cy 3, wbn, .inr (.inr (.inr (.inr (yad wbd))))))], xg_rows wbd wbn (cy 1) wbk wbG] (fun v u => v = some (.int res) ∧ u = [[(w, .inr (10, [.int wr, .int wk, .int wc, .int wg, .int ws, .ref wa, .ref wb]))], [(wb, .inl (cy 3, wbn, .inr (.inr (.inr (.inr (yad wbd))))))], xg_rows wbd wbn (cy 1) wbk wbG]) := by
  unfold fX8_b at hR
  refine YM.ofI (cc := cX8_b) (maxL := 8) (ret := (some .int)) (by decide +kernel) rfl (Nat.le_of_ble_eq_true rfl) [(0, .ref w), (1, .int i1), (2, .int i2)] rfl rfl (fun p e s m args below meth c A H0 Q C hnm ret => ?_)
  refine xr_iload_n (n := 1) (j := 2) C dd_X8_b_0.1 rfl rfl ?_
  refine xr_aload_n (n := 2) (j := 0) C dd_X8_b_0.2.1 rfl rfl ?_
  refine xr_get (n := 5) C 0 rfl rfl 2 (by decide) in_X8 u_1204 rfl (v := .int wc) rfl dd_X8_b_0.2.2.1 rfl ?_
  refine xr_icmp_ge (tgt := 17) (n := 8) C dd_X8_b_0.2.2.2.1 rfl rfl (fun c_1 => ?_) (fun c_1 => ?_)
  · replace hR := yf_t c_1 hR
    refine xr_iconst (n := 18) (v := 0) C dd_X8_b_0.2.2.2.2.2.2.2.2.2.2.2.1 rfl rfl ?_
    refine xr_istore_n (n := 19) C [(3, .int 0), (0, .ref w), (1, .int i1), (2, .int i2)] dd_X8_b_0.2.2.2.2.2.2.2.2.2.2.2.2.1 (by decide) rfl rfl ?_
    refine xr_aload_n (n := 20) (j := 1) C dd_X8_b_0.2.2.2.2.2.2.2.2.2.2.2.2.2.1 rfl rfl ?_
    refine xr_get (n := 23) C 0 rfl rfl 6 (by decide) in_X8 u_1212 rfl (v := .ref wb) rfl dd_X8_b_0.2.2.2.2.2.2.2.2.2.2.2.2.2.2.1 rfl ?_
    refine xr_iload_n (n := 24) (j := 2) C dd_X8_b_0.2.2.2.2.2.2.2.2.2.2.2.2.2.2.2.1 rfl rfl ?_
    obtain ⟨g_2, hR⟩ := yf_g hR
    refine xr_aald (n := 25) C 1 0 rfl 3 rfl rfl g_2 rfl dd_X8_b_1.1 rfl ?_
    refine xr_astore (n := 27) C [(4, .ref (wbd i1.toNatClampNeg)), (3, .int 0), (0, .ref w), (1, .int i1), (2, .int i2)] dd_X8_b_1.2.1 (by decide) rfl rfl ?_
    refine xr_aload (n := 29) (j := 0) C dd_X8_b_1.2.2.1 rfl rfl ?_
    refine xr_aleng (n := 30) C 2 1 rfl i1.toNatClampNeg (ylt g_2) rfl dd_X8_b_1.2.2.2.1 rfl ?_
    refine xr_istore (n := 32) C [(5, .int (nI wbk)), (4, .ref (wbd i1.toNatClampNeg)), (3, .int 0), (0, .ref w), (1, .int i1), (2, .int i2)] dd_X8_b_1.2.2.2.2.1 (by decide) rfl rfl ?_
    refine xr_iconst (n := 33) (v := 0) C dd_X8_b_1.2.2.2.2.2.1 rfl rfl ?_
    refine xr_istore (n := 35) C [(6, .int 0), (5, .int (nI wbk)), (4, .ref (wbd i1.toNatClampNeg)), (3, .int 0), (0, .ref w), (1, .int i1), (2, .int i2)] dd_X8_b_1.2.2.2.2.2.2.1 (by decide) rfl rfl ?_
    refine xr_lv (lv' := [(3, .int 0), (4, .ref (wbd i1.toNatClampNeg)), (5, .int (nI wbk)), (6, .int 0)]) [3, 2, 1, 0] rfl ?_
    obtain ⟨b_3, hb_3, hR⟩ := yf_b hR
    have K_3 : X p l e (yR 1 0 0) s m args below meth c D A H0 8 Q [[(w, .inr (10, [.int wr, .int wk, .int wc, .int wg, .int ws, .ref wa, .ref wb]))], [(wb, .inl (cy 3, wbn, .inr (.inr (.inr (.inr (yad wbd))))))], xg_rows wbd wbn (cy 1) wbk wbG] 0 0 [(3, .int b_3.1)] 60 [] := by
      refine xr_iload_n (n := 61) (j := 0) C dd_X8_b_2.2.2.2.2.1 rfl rfl ?_
      obtain rfl := Option.some.inj hR
      exact ret b_3.1 ⟨rfl, rfl⟩ (Nat.le_of_ble_eq_true rfl) (Nat.le_of_ble_eq_true rfl) dd_X8_b_2.2.2.2.2.2.1
    refine y_loop (P := fun (s_3 : Int32 × Int32) => X p l e (yR 1 0 0) s m args below meth c D A H0 8 Q [[(w, .inr (10, [.int wr, .int wk, .int wc, .int wg, .int ws, .ref wa, .ref wb]))], [(wb, .inl (cy 3, wbn, .inr (.inr (.inr (.inr (yad wbd))))))], xg_rows wbd wbn (cy 1) wbk wbG] 0 0 [(3, .int s_3.1), (4, .ref (wbd i1.toNatClampNeg)), (5, .int (nI wbk)), (6, .int s_3.2)] 35 []) ?_ _ (0, 0) hb_3
    intro s_3 o_3 ho_3 hk_3 hx_3
    refine xr_iload (n := 37) (j := 3) C dd_X8_b_1.2.2.2.2.2.2.2.1 rfl rfl ?_
    refine xr_iload (n := 39) (j := 2) C dd_X8_b_1.2.2.2.2.2.2.2.2.1 rfl rfl ?_
    refine xr_icmp_ge (tgt := 60) (n := 42) C dd_X8_b_1.2.2.2.2.2.2.2.2.2.1 rfl rfl (fun c_4 => ?_) (fun c_4 => ?_)
    · replace ho_3 := yf_t c_4 ho_3
      refine xr_lv (lv' := [(3, .int s_3.1)]) [0] rfl ?_
      have e_5 := hx_3 _ (Option.some.inj ho_3).symm
      subst e_5
      exact K_3
    · replace ho_3 := yf_f c_4 ho_3
      refine xr_aload (n := 44) (j := 1) C dd_X8_b_1.2.2.2.2.2.2.2.2.2.2.1 rfl rfl ?_
      refine xr_iload (n := 46) (j := 3) C dd_X8_b_1.2.2.2.2.2.2.2.2.2.2.2.1 rfl rfl ?_
      obtain ⟨g_6, ho_3⟩ := yf_g ho_3
      refine xr_ialdg (n := 47) C 2 rfl i1.toNatClampNeg (ylt g_2) g_6 dd_X8_b_1.2.2.2.2.2.2.2.2.2.2.2.2.1 rfl ?_
      refine xr_istore (n := 49) C [(7, .int (wbG i1.toNatClampNeg s_3.2.toNatClampNeg)), (3, .int s_3.1), (4, .ref (wbd i1.toNatClampNeg)), (5, .int (nI wbk)), (6, .int s_3.2)] dd_X8_b_1.2.2.2.2.2.2.2.2.2.2.2.2.2.1 (by decide) rfl rfl ?_
      refine xr_iload_n (n := 50) (j := 1) C dd_X8_b_1.2.2.2.2.2.2.2.2.2.2.2.2.2.2.1 rfl rfl ?_
      refine xr_iload (n := 52) (j := 0) C dd_X8_b_1.2.2.2.2.2.2.2.2.2.2.2.2.2.2.2.1 rfl rfl ?_
      refine xr_iadd (n := 53) C dd_X8_b_2.1 rfl ?_
      obtain ⟨y_7, ey_7, ho_3⟩ := yf_l ho_3
      refine xr_topI ey_7 ?_
      refine xr_istore_n (n := 54) C [(3, .int y_7), (7, .int (wbG i1.toNatClampNeg s_3.2.toNatClampNeg)), (4, .ref (wbd i1.toNatClampNeg)), (5, .int (nI wbk)), (6, .int s_3.2)] dd_X8_b_2.2.1 (by decide) rfl rfl ?_
      refine xr_iinc (j := 4) (v := s_3.2 + 1) (n := 57) C [(6, .int (s_3.2 + 1)), (3, .int y_7), (7, .int (wbG i1.toNatClampNeg s_3.2.toNatClampNeg)), (4, .ref (wbd i1.toNatClampNeg)), (5, .int (nI wbk))] dd_X8_b_2.2.2.1 rfl rfl (by decide) rfl rfl ?_
      refine xr_goto (tgt := 35) C dd_X8_b_2.2.2.2.1 rfl ?_
      refine xr_lv (lv' := [(3, .int y_7), (4, .ref (wbd i1.toNatClampNeg)), (5, .int (nI wbk)), (6, .int (s_3.2 + 1))]) [1, 3, 4, 0] rfl ?_
      exact hk_3 (y_7, s_3.2 + 1) (Option.some.inj ho_3).symm
  · replace hR := yf_f c_1 hR
    refine xr_aload_n (n := 9) (j := 0) C dd_X8_b_0.2.2.2.2.1 rfl rfl ?_
    refine xr_get (n := 12) C 0 rfl rfl 6 (by decide) in_X8 u_1212 rfl (v := .ref wb) rfl dd_X8_b_0.2.2.2.2.2.1 rfl ?_
    refine xr_iload_n (n := 13) (j := 1) C dd_X8_b_0.2.2.2.2.2.2.1 rfl rfl ?_
    obtain ⟨g_8, hR⟩ := yf_g hR
    refine xr_aald (n := 14) C 1 0 rfl 3 rfl rfl g_8 rfl dd_X8_b_0.2.2.2.2.2.2.2.1 rfl ?_
    refine xr_iload_n (n := 15) (j := 2) C dd_X8_b_0.2.2.2.2.2.2.2.2.1 rfl rfl ?_
    obtain ⟨g_9, hR⟩ := yf_g hR
    refine xr_ialdg (n := 16) C 2 rfl i1.toNatClampNeg (ylt g_8) g_9 dd_X8_b_0.2.2.2.2.2.2.2.2.2.1 rfl ?_
    obtain rfl := Option.some.inj hR
    exact ret (wbG i1.toNatClampNeg i2.toNatClampNeg) ⟨rfl, rfl⟩ (Nat.le_of_ble_eq_true rfl) (Nat.le_of_ble_eq_true rfl) dd_X8_b_0.2.2.2.2.2.2.2.2.2.2.1
theorem dd_X8_isIdle_0 : dk_R cX8_isIdle [(0, .iconst 1, 1), (1, .istore_n 2, 1), (2, .iconst 1, 1), (3, .istore_n 3, 1), (4, .aload_n 0, 1), (5, .getfield 26, 3), (8, .astore 4, 2), (10, .aload 4, 2), (12, .arraylength, 1), (13, .istore 5, 2), (15, .iconst 0, 1), (16, .istore 6, 2), (18, .iload 6, 2), (20, .iload 5, 2), (22, .if_icmp .ge 31, 3), (25, .aload 4, 2)] := dk_use _ _ (by decide +kernel)
theorem dd_X8_isIdle_1 : dk_R cX8_isIdle [(27, .iload 6, 2), (29, .aaload, 1), (30, .astore 7, 2), (32, .iload_n 2, 1), (33, .aload 7, 2), (35, .iload_n 1, 1), (36, .iaload, 1), (37, .ifCond .ne 7, 3), (40, .iconst 1, 1), (41, .goto 4, 3), (44, .iconst 0, 1), (45, .iand, 1), (46, .istore_n 2, 1), (47, .iinc 6 1, 3), (50, .goto (-32), 3), (53, .aload_n 0, 1)] := dk_use _ _ (by decide +kernel)
theorem dd_X8_isIdle_2 : dk_R cX8_isIdle [(54, .getfield 30, 3), (57, .iload_n 1, 1), (58, .aaload, 1), (59, .astore 4, 2), (61, .aload 4, 2), (63, .arraylength, 1), (64, .istore 5, 2), (66, .iconst 0, 1), (67, .istore 6, 2), (69, .iload 6, 2), (71, .iload 5, 2), (73, .if_icmp .ge 29, 3), (76, .aload 4, 2), (78, .iload 6, 2), (80, .iaload, 1), (81, .istore 7, 2)] := dk_use _ _ (by decide +kernel)
theorem dd_X8_isIdle_3 : dk_R cX8_isIdle [(83, .iload_n 3, 1), (84, .iload 7, 2), (86, .ifCond .ne 7, 3), (89, .iconst 1, 1), (90, .goto 4, 3), (93, .iconst 0, 1), (94, .iand, 1), (95, .istore_n 3, 1), (96, .iinc 6 1, 3), (99, .goto (-30), 3), (102, .aload_n 0, 1), (103, .getfield 33, 3), (106, .ifCond .ne 15, 3), (109, .iload_n 2, 1), (110, .ifCond .ne 7, 3), (113, .iload_n 3, 1)] := dk_use _ _ (by decide +kernel)
theorem dd_X8_isIdle_4 : dk_R cX8_isIdle [(114, .ifCond .eq 7, 3), (117, .iconst 1, 1), (118, .goto 4, 3), (121, .iconst 0, 1), (122, .ireturn, 1)] := dk_use _ _ (by decide +kernel)
def fX8_isIdle (wg : Int32) (wan : Nat) (wak : Nat) (waG : Nat → Nat → Int32) (wbn : Nat) (wbk : Nat) (wbG : Nat → Nat → Int32) (i1 : Int32) : Option (Int32) := ((wl (S := Int32 × Int32) (B := Int32 × Int32) (fun s_1 => (if (nI wan) ≤ s_1.2 then some (.inr (s_1.1, s_1.2)) else (if ¬ (s_1.2 < 0 ∨ wan ≤ s_1.2.toNatClampNeg) then (if ¬ (i1 < 0 ∨ wak ≤ i1.toNatClampNeg) then ((((if (waG s_1.2.toNatClampNeg i1.toNatClampNeg) = 0 then some 1 else some 0) : Option (Int32))).bind fun r_20 => some (.inl (s_1.1 &&& r_20, s_1.2 + 1))) else none) else none))) yFuel (1, 0)).bind fun b_1 => (if ¬ (i1 < 0 ∨ wbn ≤ i1.toNatClampNeg) then ((wl (S := Int32 × Int32) (B := Int32 × Int32) (fun s_3 => (if (nI wbk) ≤ s_3.2 then some (.inr (s_3.1, s_3.2)) else (if ¬ (s_3.2 < 0 ∨ wbk ≤ s_3.2.toNatClampNeg) then ((((if (wbG i1.toNatClampNeg s_3.2.toNatClampNeg) = 0 then some 1 else some 0) : Option (Int32))).bind fun r_11 => some (.inl (s_3.1 &&& r_11, s_3.2 + 1))) else none))) yFuel (1, 0)).bind fun b_3 => (if wg = 0 then (if b_1.1 = 0 then (if b_3.1 = 0 then some 0 else some 1) else some 1) else some 0)) else none))
abbrev hX8_isIdle : Cond := .code yX8_isIdle cX8_isIdle 8 (some .boolean)
theorem mX8_isIdle : yM yX8_isIdle hX8_isIdle 1 := ⟨u_1370, u_65, by decide +kernel, by decide +kernel, by decide +kernel⟩
set_option maxHeartbeats 4000000 in
set_option maxRecDepth 100000 in
theorem kX8_isIdle (l : Launch) (D : va_G) (cy : Nat → ClassId) (w : Nat) (wr : Int32) (wk : Int32) (wc : Int32) (wg : Int32) (ws : Int32) (wa : Nat) (wb : Nat) (wad : Nat → Nat) (wan : Nat) (wak : Nat) (waG : Nat → Nat → Int32) (wbd : Nat → Nat) (wbn : Nat) (wbk : Nat) (wbG : Nat → Nat → Int32) (i1 : Int32) {res : Int32} (hR : fX8_isIdle wg wan wak waG wbn wbk wbG i1 = some res) : YM l D cy yX8_isIdle hX8_isIdle 1 0 0 [.ref w, .int i1] [[(w, .inr (10, [.int wr, .int wk, .int wc, .int wg, .int ws, .ref wa, .ref wb]))], [(wa, .inl (cy 3, wan, .inr (.inr (.inr (.inr (yad wad))))))], xg_rows wad wan (cy 1) wak waG, [(wb, .inl (cy 3, wbn, .inr (.inr (.inr (.inr (yad wbd))))))], xg_rows wbd wbn (cy 1) wbk wbG] (fun v u => v = some (.int res) ∧ u = [[(w, .inr (10, [.int wr, .int wk, .int wc, .int wg, .int ws, .ref wa, .ref wb]))], [(wa, .inl (cy 3, wan, .inr (.inr (.inr (.inr (yad wad))))))], xg_rows wad wan (cy 1) wak waG, [(wb, .inl (cy 3, wbn, .inr (.inr (.inr (.inr (yad wbd))))))], xg_rows wbd wbn (cy 1) wbk wbG]) := by
  unfold fX8_isIdle at hR
  refine YM.ofZ (cc := cX8_isIdle) (maxL := 8) (ret := (some .boolean)) (by decide +kernel) rfl (Nat.le_of_ble_eq_true rfl) [(0, .ref w), (1, .int i1)] rfl .boolean rfl (fun p e s m args below meth c A H0 Q C hnm ret => ?_)
  refine xr_iconst (n := 1) (v := 1) C dd_X8_isIdle_0.1 rfl rfl ?_
  refine xr_istore_n (n := 2) C [(2, .int 1), (0, .ref w), (1, .int i1)] dd_X8_isIdle_0.2.1 (by decide) rfl rfl ?_
  refine xr_iconst (n := 3) (v := 1) C dd_X8_isIdle_0.2.2.1 rfl rfl ?_
  refine xr_istore_n (n := 4) C [(3, .int 1), (2, .int 1), (0, .ref w), (1, .int i1)] dd_X8_isIdle_0.2.2.2.1 (by decide) rfl rfl ?_
  refine xr_aload_n (n := 5) (j := 2) C dd_X8_isIdle_0.2.2.2.2.1 rfl rfl ?_
  refine xr_get (n := 8) C 0 rfl rfl 5 (by decide) in_X8 u_1210 rfl (v := .ref wa) rfl dd_X8_isIdle_0.2.2.2.2.2.1 rfl ?_
  refine xr_astore (n := 10) C [(4, .ref wa), (3, .int 1), (2, .int 1), (0, .ref w), (1, .int i1)] dd_X8_isIdle_0.2.2.2.2.2.2.1 (by decide) rfl rfl ?_
  refine xr_aload (n := 12) (j := 0) C dd_X8_isIdle_0.2.2.2.2.2.2.2.1 rfl rfl ?_
  refine xr_alen (n := 13) C 1 0 rfl 3 rfl rfl dd_X8_isIdle_0.2.2.2.2.2.2.2.2.1 rfl ?_
  refine xr_istore (n := 15) C [(5, .int (nI wan)), (4, .ref wa), (3, .int 1), (2, .int 1), (0, .ref w), (1, .int i1)] dd_X8_isIdle_0.2.2.2.2.2.2.2.2.2.1 (by decide) rfl rfl ?_
  refine xr_iconst (n := 16) (v := 0) C dd_X8_isIdle_0.2.2.2.2.2.2.2.2.2.2.1 rfl rfl ?_
  refine xr_istore (n := 18) C [(6, .int 0), (5, .int (nI wan)), (4, .ref wa), (3, .int 1), (2, .int 1), (0, .ref w), (1, .int i1)] dd_X8_isIdle_0.2.2.2.2.2.2.2.2.2.2.2.1 (by decide) rfl rfl ?_
  refine xr_lv (lv' := [(0, .ref w), (1, .int i1), (2, .int 1), (3, .int 1), (4, .ref wa), (5, .int (nI wan)), (6, .int 0)]) [5, 6, 4, 3, 2, 1, 0] rfl ?_
  obtain ⟨b_1, hb_1, hR⟩ := yf_b hR
  have K_1 : X p l e (yR 1 0 0) s m args below meth c D A H0 8 Q [[(w, .inr (10, [.int wr, .int wk, .int wc, .int wg, .int ws, .ref wa, .ref wb]))], [(wa, .inl (cy 3, wan, .inr (.inr (.inr (.inr (yad wad))))))], xg_rows wad wan (cy 1) wak waG, [(wb, .inl (cy 3, wbn, .inr (.inr (.inr (.inr (yad wbd))))))], xg_rows wbd wbn (cy 1) wbk wbG] 0 0 [(0, .ref w), (1, .int i1), (2, .int b_1.1), (3, .int 1)] 53 [] := by
    refine xr_aload_n (n := 54) (j := 0) C dd_X8_isIdle_1.2.2.2.2.2.2.2.2.2.2.2.2.2.2.2.1 rfl rfl ?_
    refine xr_get (n := 57) C 0 rfl rfl 6 (by decide) in_X8 u_1212 rfl (v := .ref wb) rfl dd_X8_isIdle_2.1 rfl ?_
    refine xr_iload_n (n := 58) (j := 1) C dd_X8_isIdle_2.2.1 rfl rfl ?_
    obtain ⟨g_2, hR⟩ := yf_g hR
    refine xr_aald (n := 59) C 3 0 rfl 3 rfl rfl g_2 rfl dd_X8_isIdle_2.2.2.1 rfl ?_
    refine xr_astore (n := 61) C [(4, .ref (wbd i1.toNatClampNeg)), (0, .ref w), (1, .int i1), (2, .int b_1.1), (3, .int 1)] dd_X8_isIdle_2.2.2.2.1 (by decide) rfl rfl ?_
    refine xr_aload (n := 63) (j := 0) C dd_X8_isIdle_2.2.2.2.2.1 rfl rfl ?_
    refine xr_aleng (n := 64) C 4 1 rfl i1.toNatClampNeg (ylt g_2) rfl dd_X8_isIdle_2.2.2.2.2.2.1 rfl ?_
    refine xr_istore (n := 66) C [(5, .int (nI wbk)), (4, .ref (wbd i1.toNatClampNeg)), (0, .ref w), (1, .int i1), (2, .int b_1.1), (3, .int 1)] dd_X8_isIdle_2.2.2.2.2.2.2.1 (by decide) rfl rfl ?_
    refine xr_iconst (n := 67) (v := 0) C dd_X8_isIdle_2.2.2.2.2.2.2.2.1 rfl rfl ?_
    refine xr_istore (n := 69) C [(6, .int 0), (5, .int (nI wbk)), (4, .ref (wbd i1.toNatClampNeg)), (0, .ref w), (1, .int i1), (2, .int b_1.1), (3, .int 1)] dd_X8_isIdle_2.2.2.2.2.2.2.2.2.1 (by decide) rfl rfl ?_
    refine xr_lv (lv' := [(0, .ref w), (2, .int b_1.1), (3, .int 1), (4, .ref (wbd i1.toNatClampNeg)), (5, .int (nI wbk)), (6, .int 0)]) [3, 5, 6, 2, 1, 0] rfl ?_
    obtain ⟨b_3, hb_3, hR⟩ := yf_b hR
    have K_3 : X p l e (yR 1 0 0) s m args below meth c D A H0 8 Q [[(w, .inr (10, [.int wr, .int wk, .int wc, .int wg, .int ws, .ref wa, .ref wb]))], [(wa, .inl (cy 3, wan, .inr (.inr (.inr (.inr (yad wad))))))], xg_rows wad wan (cy 1) wak waG, [(wb, .inl (cy 3, wbn, .inr (.inr (.inr (.inr (yad wbd))))))], xg_rows wbd wbn (cy 1) wbk wbG] 0 0 [(0, .ref w), (2, .int b_1.1), (3, .int b_3.1)] 102 [] := by
      refine xr_aload_n (n := 103) (j := 0) C dd_X8_isIdle_3.2.2.2.2.2.2.2.2.2.2.1 rfl rfl ?_
      refine xr_get (n := 106) C 0 rfl rfl 3 (by decide) in_X8 u_1206 rfl (v := .int wg) rfl dd_X8_isIdle_3.2.2.2.2.2.2.2.2.2.2.2.1 rfl ?_
      refine xr_if_ne (tgt := 121) (n := 109) C dd_X8_isIdle_3.2.2.2.2.2.2.2.2.2.2.2.2.1 rfl rfl (fun c_4 => ?_) (fun c_4 => ?_)
      · replace hR := yf_f c_4 hR
        refine xr_iconst (n := 122) (v := 0) C dd_X8_isIdle_4.2.2.2.1 rfl rfl ?_
        obtain rfl := Option.some.inj hR
        exact ret 0 (by decide) ⟨rfl, rfl⟩ (Nat.le_of_ble_eq_true rfl) (Nat.le_of_ble_eq_true rfl) dd_X8_isIdle_4.2.2.2.2.1
      · replace hR := yf_t c_4 hR
        refine xr_iload_n (n := 110) (j := 1) C dd_X8_isIdle_3.2.2.2.2.2.2.2.2.2.2.2.2.2.1 rfl rfl ?_
        refine xr_if_ne (tgt := 117) (n := 113) C dd_X8_isIdle_3.2.2.2.2.2.2.2.2.2.2.2.2.2.2.1 rfl rfl (fun c_5 => ?_) (fun c_5 => ?_)
        · replace hR := yf_f c_5 hR
          refine xr_iconst (n := 118) (v := 1) C dd_X8_isIdle_4.2.1 rfl rfl ?_
          refine xr_goto (tgt := 122) C dd_X8_isIdle_4.2.2.1 rfl ?_
          obtain rfl := Option.some.inj hR
          exact ret 1 (by decide) ⟨rfl, rfl⟩ (Nat.le_of_ble_eq_true rfl) (Nat.le_of_ble_eq_true rfl) dd_X8_isIdle_4.2.2.2.2.1
        · replace hR := yf_t c_5 hR
          refine xr_iload_n (n := 114) (j := 2) C dd_X8_isIdle_3.2.2.2.2.2.2.2.2.2.2.2.2.2.2.2.1 rfl rfl ?_
          refine xr_if_eq (tgt := 121) (n := 117) C dd_X8_isIdle_4.1 rfl rfl (fun c_6 => ?_) (fun c_6 => ?_)
          · replace hR := yf_t c_6 hR
            refine xr_iconst (n := 122) (v := 0) C dd_X8_isIdle_4.2.2.2.1 rfl rfl ?_
            obtain rfl := Option.some.inj hR
            exact ret 0 (by decide) ⟨rfl, rfl⟩ (Nat.le_of_ble_eq_true rfl) (Nat.le_of_ble_eq_true rfl) dd_X8_isIdle_4.2.2.2.2.1
          · replace hR := yf_f c_6 hR
            refine xr_iconst (n := 118) (v := 1) C dd_X8_isIdle_4.2.1 rfl rfl ?_
            refine xr_goto (tgt := 122) C dd_X8_isIdle_4.2.2.1 rfl ?_
            obtain rfl := Option.some.inj hR
            exact ret 1 (by decide) ⟨rfl, rfl⟩ (Nat.le_of_ble_eq_true rfl) (Nat.le_of_ble_eq_true rfl) dd_X8_isIdle_4.2.2.2.2.1
    refine y_loop (P := fun (s_3 : Int32 × Int32) => X p l e (yR 1 0 0) s m args below meth c D A H0 8 Q [[(w, .inr (10, [.int wr, .int wk, .int wc, .int wg, .int ws, .ref wa, .ref wb]))], [(wa, .inl (cy 3, wan, .inr (.inr (.inr (.inr (yad wad))))))], xg_rows wad wan (cy 1) wak waG, [(wb, .inl (cy 3, wbn, .inr (.inr (.inr (.inr (yad wbd))))))], xg_rows wbd wbn (cy 1) wbk wbG] 0 0 [(0, .ref w), (2, .int b_1.1), (3, .int s_3.1), (4, .ref (wbd i1.toNatClampNeg)), (5, .int (nI wbk)), (6, .int s_3.2)] 69 []) ?_ _ (1, 0) hb_3
    intro s_3 o_3 ho_3 hk_3 hx_3
    refine xr_iload (n := 71) (j := 5) C dd_X8_isIdle_2.2.2.2.2.2.2.2.2.2.1 rfl rfl ?_
    refine xr_iload (n := 73) (j := 4) C dd_X8_isIdle_2.2.2.2.2.2.2.2.2.2.2.1 rfl rfl ?_
    refine xr_icmp_ge (tgt := 102) (n := 76) C dd_X8_isIdle_2.2.2.2.2.2.2.2.2.2.2.2.1 rfl rfl (fun c_7 => ?_) (fun c_7 => ?_)
    · replace ho_3 := yf_t c_7 ho_3
      refine xr_lv (lv' := [(0, .ref w), (2, .int b_1.1), (3, .int s_3.1)]) [0, 1, 2] rfl ?_
      have e_8 := hx_3 _ (Option.some.inj ho_3).symm
      subst e_8
      exact K_3
    · replace ho_3 := yf_f c_7 ho_3
      refine xr_aload (n := 78) (j := 3) C dd_X8_isIdle_2.2.2.2.2.2.2.2.2.2.2.2.2.1 rfl rfl ?_
      refine xr_iload (n := 80) (j := 5) C dd_X8_isIdle_2.2.2.2.2.2.2.2.2.2.2.2.2.2.1 rfl rfl ?_
      obtain ⟨g_9, ho_3⟩ := yf_g ho_3
      refine xr_ialdg (n := 81) C 4 rfl i1.toNatClampNeg (ylt g_2) g_9 dd_X8_isIdle_2.2.2.2.2.2.2.2.2.2.2.2.2.2.2.1 rfl ?_
      refine xr_istore (n := 83) C [(7, .int (wbG i1.toNatClampNeg s_3.2.toNatClampNeg)), (0, .ref w), (2, .int b_1.1), (3, .int s_3.1), (4, .ref (wbd i1.toNatClampNeg)), (5, .int (nI wbk)), (6, .int s_3.2)] dd_X8_isIdle_2.2.2.2.2.2.2.2.2.2.2.2.2.2.2.2.1 (by decide) rfl rfl ?_
      refine xr_iload_n (n := 84) (j := 3) C dd_X8_isIdle_3.1 rfl rfl ?_
      refine xr_iload (n := 86) (j := 0) C dd_X8_isIdle_3.2.1 rfl rfl ?_
      obtain ⟨r_11, hE_11, ho_3⟩ := yf_b ho_3
      have J_11 : X p l e (yR 1 0 0) s m args below meth c D A H0 8 Q [[(w, .inr (10, [.int wr, .int wk, .int wc, .int wg, .int ws, .ref wa, .ref wb]))], [(wa, .inl (cy 3, wan, .inr (.inr (.inr (.inr (yad wad))))))], xg_rows wad wan (cy 1) wak waG, [(wb, .inl (cy 3, wbn, .inr (.inr (.inr (.inr (yad wbd))))))], xg_rows wbd wbn (cy 1) wbk wbG] 0 0 [(0, .ref w), (2, .int b_1.1), (4, .ref (wbd i1.toNatClampNeg)), (5, .int (nI wbk)), (6, .int s_3.2)] 94 [.int r_11, .int s_3.1] := by
        refine xr_iand (n := 95) C dd_X8_isIdle_3.2.2.2.2.2.2.1 rfl ?_
        refine xr_istore_n (n := 96) C [(3, .int (s_3.1 &&& r_11)), (0, .ref w), (2, .int b_1.1), (4, .ref (wbd i1.toNatClampNeg)), (5, .int (nI wbk)), (6, .int s_3.2)] dd_X8_isIdle_3.2.2.2.2.2.2.2.1 (by decide) rfl rfl ?_
        refine xr_iinc (j := 5) (v := s_3.2 + 1) (n := 99) C [(6, .int (s_3.2 + 1)), (3, .int (s_3.1 &&& r_11)), (0, .ref w), (2, .int b_1.1), (4, .ref (wbd i1.toNatClampNeg)), (5, .int (nI wbk))] dd_X8_isIdle_3.2.2.2.2.2.2.2.2.1 rfl rfl (by decide) rfl rfl ?_
        refine xr_goto (tgt := 69) C dd_X8_isIdle_3.2.2.2.2.2.2.2.2.2.1 rfl ?_
        refine xr_lv (lv' := [(0, .ref w), (2, .int b_1.1), (3, .int (s_3.1 &&& r_11)), (4, .ref (wbd i1.toNatClampNeg)), (5, .int (nI wbk)), (6, .int (s_3.2 + 1))]) [2, 3, 1, 4, 5, 0] rfl ?_
        exact hk_3 (s_3.1 &&& r_11, s_3.2 + 1) (Option.some.inj ho_3).symm
      refine xr_if_ne (tgt := 93) (n := 89) C dd_X8_isIdle_3.2.2.1 rfl rfl (fun c_12 => ?_) (fun c_12 => ?_)
      · replace hE_11 := yf_f c_12 hE_11
        refine xr_iconst (n := 94) (v := 0) C dd_X8_isIdle_3.2.2.2.2.2.1 rfl rfl ?_
        refine xr_lv (lv' := [(0, .ref w), (2, .int b_1.1), (4, .ref (wbd i1.toNatClampNeg)), (5, .int (nI wbk)), (6, .int s_3.2)]) [1, 2, 4, 5, 6] rfl ?_
        have e_13 := Option.some.inj hE_11
        subst e_13
        exact J_11
      · replace hE_11 := yf_t c_12 hE_11
        refine xr_iconst (n := 90) (v := 1) C dd_X8_isIdle_3.2.2.2.1 rfl rfl ?_
        refine xr_goto (tgt := 94) C dd_X8_isIdle_3.2.2.2.2.1 rfl ?_
        refine xr_lv (lv' := [(0, .ref w), (2, .int b_1.1), (4, .ref (wbd i1.toNatClampNeg)), (5, .int (nI wbk)), (6, .int s_3.2)]) [1, 2, 4, 5, 6] rfl ?_
        have e_14 := Option.some.inj hE_11
        subst e_14
        exact J_11
  refine y_loop (P := fun (s_1 : Int32 × Int32) => X p l e (yR 1 0 0) s m args below meth c D A H0 8 Q [[(w, .inr (10, [.int wr, .int wk, .int wc, .int wg, .int ws, .ref wa, .ref wb]))], [(wa, .inl (cy 3, wan, .inr (.inr (.inr (.inr (yad wad))))))], xg_rows wad wan (cy 1) wak waG, [(wb, .inl (cy 3, wbn, .inr (.inr (.inr (.inr (yad wbd))))))], xg_rows wbd wbn (cy 1) wbk wbG] 0 0 [(0, .ref w), (1, .int i1), (2, .int s_1.1), (3, .int 1), (4, .ref wa), (5, .int (nI wan)), (6, .int s_1.2)] 18 []) ?_ _ (1, 0) hb_1
  intro s_1 o_1 ho_1 hk_1 hx_1
  refine xr_iload (n := 20) (j := 6) C dd_X8_isIdle_0.2.2.2.2.2.2.2.2.2.2.2.2.1 rfl rfl ?_
  refine xr_iload (n := 22) (j := 5) C dd_X8_isIdle_0.2.2.2.2.2.2.2.2.2.2.2.2.2.1 rfl rfl ?_
  refine xr_icmp_ge (tgt := 53) (n := 25) C dd_X8_isIdle_0.2.2.2.2.2.2.2.2.2.2.2.2.2.2.1 rfl rfl (fun c_15 => ?_) (fun c_15 => ?_)
  · replace ho_1 := yf_t c_15 ho_1
    refine xr_lv (lv' := [(0, .ref w), (1, .int i1), (2, .int s_1.1), (3, .int 1)]) [0, 1, 2, 3] rfl ?_
    have e_16 := hx_1 _ (Option.some.inj ho_1).symm
    subst e_16
    exact K_1
  · replace ho_1 := yf_f c_15 ho_1
    refine xr_aload (n := 27) (j := 4) C dd_X8_isIdle_0.2.2.2.2.2.2.2.2.2.2.2.2.2.2.2.1 rfl rfl ?_
    refine xr_iload (n := 29) (j := 6) C dd_X8_isIdle_1.1 rfl rfl ?_
    obtain ⟨g_17, ho_1⟩ := yf_g ho_1
    refine xr_aald (n := 30) C 1 0 rfl 3 rfl rfl g_17 rfl dd_X8_isIdle_1.2.1 rfl ?_
    refine xr_astore (n := 32) C [(7, .ref (wad s_1.2.toNatClampNeg)), (0, .ref w), (1, .int i1), (2, .int s_1.1), (3, .int 1), (4, .ref wa), (5, .int (nI wan)), (6, .int s_1.2)] dd_X8_isIdle_1.2.2.1 (by decide) rfl rfl ?_
    refine xr_iload_n (n := 33) (j := 3) C dd_X8_isIdle_1.2.2.2.1 rfl rfl ?_
    refine xr_aload (n := 35) (j := 0) C dd_X8_isIdle_1.2.2.2.2.1 rfl rfl ?_
    refine xr_iload_n (n := 36) (j := 2) C dd_X8_isIdle_1.2.2.2.2.2.1 rfl rfl ?_
    obtain ⟨g_18, ho_1⟩ := yf_g ho_1
    refine xr_ialdg (n := 37) C 2 rfl s_1.2.toNatClampNeg (ylt g_17) g_18 dd_X8_isIdle_1.2.2.2.2.2.2.1 rfl ?_
    obtain ⟨r_20, hE_20, ho_1⟩ := yf_b ho_1
    have J_20 : X p l e (yR 1 0 0) s m args below meth c D A H0 8 Q [[(w, .inr (10, [.int wr, .int wk, .int wc, .int wg, .int ws, .ref wa, .ref wb]))], [(wa, .inl (cy 3, wan, .inr (.inr (.inr (.inr (yad wad))))))], xg_rows wad wan (cy 1) wak waG, [(wb, .inl (cy 3, wbn, .inr (.inr (.inr (.inr (yad wbd))))))], xg_rows wbd wbn (cy 1) wbk wbG] 0 0 [(0, .ref w), (1, .int i1), (3, .int 1), (4, .ref wa), (5, .int (nI wan)), (6, .int s_1.2)] 45 [.int r_20, .int s_1.1] := by
      refine xr_iand (n := 46) C dd_X8_isIdle_1.2.2.2.2.2.2.2.2.2.2.2.1 rfl ?_
      refine xr_istore_n (n := 47) C [(2, .int (s_1.1 &&& r_20)), (0, .ref w), (1, .int i1), (3, .int 1), (4, .ref wa), (5, .int (nI wan)), (6, .int s_1.2)] dd_X8_isIdle_1.2.2.2.2.2.2.2.2.2.2.2.2.1 (by decide) rfl rfl ?_
      refine xr_iinc (j := 6) (v := s_1.2 + 1) (n := 50) C [(6, .int (s_1.2 + 1)), (2, .int (s_1.1 &&& r_20)), (0, .ref w), (1, .int i1), (3, .int 1), (4, .ref wa), (5, .int (nI wan))] dd_X8_isIdle_1.2.2.2.2.2.2.2.2.2.2.2.2.2.1 rfl rfl (by decide) rfl rfl ?_
      refine xr_goto (tgt := 18) C dd_X8_isIdle_1.2.2.2.2.2.2.2.2.2.2.2.2.2.2.1 rfl ?_
      refine xr_lv (lv' := [(0, .ref w), (1, .int i1), (2, .int (s_1.1 &&& r_20)), (3, .int 1), (4, .ref wa), (5, .int (nI wan)), (6, .int (s_1.2 + 1))]) [2, 3, 1, 4, 5, 6, 0] rfl ?_
      exact hk_1 (s_1.1 &&& r_20, s_1.2 + 1) (Option.some.inj ho_1).symm
    refine xr_if_ne (tgt := 44) (n := 40) C dd_X8_isIdle_1.2.2.2.2.2.2.2.1 rfl rfl (fun c_21 => ?_) (fun c_21 => ?_)
    · replace hE_20 := yf_f c_21 hE_20
      refine xr_iconst (n := 45) (v := 0) C dd_X8_isIdle_1.2.2.2.2.2.2.2.2.2.2.1 rfl rfl ?_
      refine xr_lv (lv' := [(0, .ref w), (1, .int i1), (3, .int 1), (4, .ref wa), (5, .int (nI wan)), (6, .int s_1.2)]) [1, 2, 4, 5, 6, 7] rfl ?_
      have e_22 := Option.some.inj hE_20
      subst e_22
      exact J_20
    · replace hE_20 := yf_t c_21 hE_20
      refine xr_iconst (n := 41) (v := 1) C dd_X8_isIdle_1.2.2.2.2.2.2.2.2.1 rfl rfl ?_
      refine xr_goto (tgt := 45) C dd_X8_isIdle_1.2.2.2.2.2.2.2.2.2.1 rfl ?_
      refine xr_lv (lv' := [(0, .ref w), (1, .int i1), (3, .int 1), (4, .ref wa), (5, .int (nI wan)), (6, .int s_1.2)]) [1, 2, 4, 5, 6, 7] rfl ?_
      have e_23 := Option.some.inj hE_20
      subst e_23
      exact J_20
theorem dd_X8_skipped_0 : dk_R cX8_skipped [(0, .iconst 0, 1), (1, .istore_n 1, 1), (2, .iconst 0, 1), (3, .istore_n 2, 1), (4, .iload_n 2, 1), (5, .aload_n 0, 1), (6, .getfield 36, 3), (9, .if_icmp .ge 22, 3), (12, .iload_n 1, 1), (13, .aload_n 0, 1), (14, .iload_n 2, 1), (15, .invokevirtual 39, 3), (18, .invokestatic 17, 3), (21, .iload_n 2, 1), (22, .ishl, 1), (23, .ior, 1)] := dk_use _ _ (by decide +kernel)
theorem dd_X8_skipped_1 : dk_R cX8_skipped [(24, .istore_n 1, 1), (25, .iinc 2 1, 3), (28, .goto (-24), 3), (31, .iload_n 1, 1), (32, .iconst 1, 1), (33, .aload_n 0, 1), (34, .getfield 36, 3), (37, .ishl, 1), (38, .iconst 1, 1), (39, .isub, 1), (40, .if_icmp .ne 18, 3), (43, .iload_n 1, 1), (44, .iconst 1, 1), (45, .aload_n 0, 1), (46, .getfield 36, 3), (49, .iconst 1, 1)] := dk_use _ _ (by decide +kernel)
theorem dd_X8_skipped_2 : dk_R cX8_skipped [(50, .isub, 1), (51, .ishl, 1), (52, .iconst (-1), 1), (53, .ixor, 1), (54, .iand, 1), (55, .goto 4, 3), (58, .iload_n 1, 1), (59, .ireturn, 1)] := dk_use _ _ (by decide +kernel)
def fX8_skipped (wk : Int32) (wg : Int32) (wan : Nat) (wak : Nat) (waG : Nat → Nat → Int32) (wbn : Nat) (wbk : Nat) (wbG : Nat → Nat → Int32) : Option (Int32) := ((wl (S := Int32 × Int32) (B := Int32 × Int32) (fun s_1 => (if wk ≤ s_1.2 then some (.inr (s_1.1, s_1.2)) else ((fX8_isIdle wg wan wak waG wbn wbk wbG s_1.2).bind fun x_5 => ((fX9_one x_5).bind fun x_9 => some (.inl (s_1.1 ||| (x_9 <<< (s_1.2 &&& 31)), s_1.2 + 1)))))) yFuel (0, 0)).bind fun b_1 => (if b_1.1 = (((1 : Int32) <<< (wk &&& 31)) - 1) then some (b_1.1 &&& (((1 : Int32) <<< ((wk - 1) &&& 31)) ^^^ (-1))) else some b_1.1))
abbrev hX8_skipped : Cond := .code yX8_skipped cX8_skipped 3 (some .int)
theorem mX8_skipped : yM yX8_skipped hX8_skipped 0 := ⟨u_1366, u_65, by decide +kernel, by decide +kernel, by decide +kernel⟩
set_option maxHeartbeats 4000000 in
set_option maxRecDepth 100000 in
theorem kX8_skipped (l : Launch) (D : va_G) (cy : Nat → ClassId) (w : Nat) (wr : Int32) (wk : Int32) (wc : Int32) (wg : Int32) (ws : Int32) (wa : Nat) (wb : Nat) (wad : Nat → Nat) (wan : Nat) (wak : Nat) (waG : Nat → Nat → Int32) (wbd : Nat → Nat) (wbn : Nat) (wbk : Nat) (wbG : Nat → Nat → Int32) {res : Int32} (hR : fX8_skipped wk wg wan wak waG wbn wbk wbG = some res) : YM l D cy yX8_skipped hX8_skipped 2 0 0 [.ref w] [[(w, .inr (10, [.int wr, .int wk, .int wc, .int wg, .int ws, .ref wa, .ref wb]))], [(wa, .inl (cy 3, wan, .inr (.inr (.inr (.inr (yad wad))))))], xg_rows wad wan (cy 1) wak waG, [(wb, .inl (cy 3, wbn, .inr (.inr (.inr (.inr (yad wbd))))))], xg_rows wbd wbn (cy 1) wbk wbG] (fun v u => v = some (.int res) ∧ u = [[(w, .inr (10, [.int wr, .int wk, .int wc, .int wg, .int ws, .ref wa, .ref wb]))], [(wa, .inl (cy 3, wan, .inr (.inr (.inr (.inr (yad wad))))))], xg_rows wad wan (cy 1) wak waG, [(wb, .inl (cy 3, wbn, .inr (.inr (.inr (.inr (yad wbd))))))], xg_rows wbd wbn (cy 1) wbk wbG]) := by
  unfold fX8_skipped at hR
  refine YM.ofI (cc := cX8_skipped) (maxL := 3) (ret := (some .int)) (by decide +kernel) rfl (Nat.le_of_ble_eq_true rfl) [(0, .ref w)] rfl rfl (fun p e s m args below meth c A H0 Q C hnm ret => ?_)
  refine xr_iconst (n := 1) (v := 0) C dd_X8_skipped_0.1 rfl rfl ?_
  refine xr_istore_n (n := 2) C [(1, .int 0), (0, .ref w)] dd_X8_skipped_0.2.1 (by decide) rfl rfl ?_
  refine xr_iconst (n := 3) (v := 0) C dd_X8_skipped_0.2.2.1 rfl rfl ?_
  refine xr_istore_n (n := 4) C [(2, .int 0), (1, .int 0), (0, .ref w)] dd_X8_skipped_0.2.2.2.1 (by decide) rfl rfl ?_
  refine xr_lv (lv' := [(0, .ref w), (1, .int 0), (2, .int 0)]) [2, 1, 0] rfl ?_
  obtain ⟨b_1, hb_1, hR⟩ := yf_b hR
  have K_1 : X p l e (yR 2 0 0) s m args below meth c D A H0 3 Q [[(w, .inr (10, [.int wr, .int wk, .int wc, .int wg, .int ws, .ref wa, .ref wb]))], [(wa, .inl (cy 3, wan, .inr (.inr (.inr (.inr (yad wad))))))], xg_rows wad wan (cy 1) wak waG, [(wb, .inl (cy 3, wbn, .inr (.inr (.inr (.inr (yad wbd))))))], xg_rows wbd wbn (cy 1) wbk wbG] 0 0 [(0, .ref w), (1, .int b_1.1)] 31 [] := by
    refine xr_iload_n (n := 32) (j := 1) C dd_X8_skipped_1.2.2.2.1 rfl rfl ?_
    refine xr_iconst (n := 33) (v := 1) C dd_X8_skipped_1.2.2.2.2.1 rfl rfl ?_
    refine xr_aload_n (n := 34) (j := 0) C dd_X8_skipped_1.2.2.2.2.2.1 rfl rfl ?_
    refine xr_get (n := 37) C 0 rfl rfl 1 (by decide) in_X8 u_1203 rfl (v := .int wk) rfl dd_X8_skipped_1.2.2.2.2.2.2.1 rfl ?_
    refine xr_ishl (n := 38) C dd_X8_skipped_1.2.2.2.2.2.2.2.1 rfl ?_
    refine xr_iconst (n := 39) (v := 1) C dd_X8_skipped_1.2.2.2.2.2.2.2.2.1 rfl rfl ?_
    refine xr_isub (n := 40) C dd_X8_skipped_1.2.2.2.2.2.2.2.2.2.1 rfl ?_
    refine xr_icmp_ne (tgt := 58) (n := 43) C dd_X8_skipped_1.2.2.2.2.2.2.2.2.2.2.1 rfl rfl (fun c_2 => ?_) (fun c_2 => ?_)
    · replace hR := yf_f c_2 hR
      refine xr_iload_n (n := 59) (j := 1) C dd_X8_skipped_2.2.2.2.2.2.2.1 rfl rfl ?_
      obtain rfl := Option.some.inj hR
      exact ret b_1.1 ⟨rfl, rfl⟩ (Nat.le_of_ble_eq_true rfl) (Nat.le_of_ble_eq_true rfl) dd_X8_skipped_2.2.2.2.2.2.2.2.1
    · replace hR := yf_t c_2 hR
      refine xr_iload_n (n := 44) (j := 1) C dd_X8_skipped_1.2.2.2.2.2.2.2.2.2.2.2.1 rfl rfl ?_
      refine xr_iconst (n := 45) (v := 1) C dd_X8_skipped_1.2.2.2.2.2.2.2.2.2.2.2.2.1 rfl rfl ?_
      refine xr_aload_n (n := 46) (j := 0) C dd_X8_skipped_1.2.2.2.2.2.2.2.2.2.2.2.2.2.1 rfl rfl ?_
      refine xr_get (n := 49) C 0 rfl rfl 1 (by decide) in_X8 u_1203 rfl (v := .int wk) rfl dd_X8_skipped_1.2.2.2.2.2.2.2.2.2.2.2.2.2.2.1 rfl ?_
      refine xr_iconst (n := 50) (v := 1) C dd_X8_skipped_1.2.2.2.2.2.2.2.2.2.2.2.2.2.2.2.1 rfl rfl ?_
      refine xr_isub (n := 51) C dd_X8_skipped_2.1 rfl ?_
      refine xr_ishl (n := 52) C dd_X8_skipped_2.2.1 rfl ?_
      refine xr_iconst (n := 53) (v := -1) C dd_X8_skipped_2.2.2.1 rfl rfl ?_
      refine xr_ixor (n := 54) C dd_X8_skipped_2.2.2.2.1 rfl ?_
      refine xr_iand (n := 55) C dd_X8_skipped_2.2.2.2.2.1 rfl ?_
      refine xr_goto (tgt := 59) C dd_X8_skipped_2.2.2.2.2.2.1 rfl ?_
      obtain rfl := Option.some.inj hR
      exact ret (b_1.1 &&& (((1 : Int32) <<< ((wk - 1) &&& 31)) ^^^ (-1))) ⟨rfl, rfl⟩ (Nat.le_of_ble_eq_true rfl) (Nat.le_of_ble_eq_true rfl) dd_X8_skipped_2.2.2.2.2.2.2.2.1
  refine y_loop (P := fun (s_1 : Int32 × Int32) => X p l e (yR 2 0 0) s m args below meth c D A H0 3 Q [[(w, .inr (10, [.int wr, .int wk, .int wc, .int wg, .int ws, .ref wa, .ref wb]))], [(wa, .inl (cy 3, wan, .inr (.inr (.inr (.inr (yad wad))))))], xg_rows wad wan (cy 1) wak waG, [(wb, .inl (cy 3, wbn, .inr (.inr (.inr (.inr (yad wbd))))))], xg_rows wbd wbn (cy 1) wbk wbG] 0 0 [(0, .ref w), (1, .int s_1.1), (2, .int s_1.2)] 4 []) ?_ _ (0, 0) hb_1
  intro s_1 o_1 ho_1 hk_1 hx_1
  refine xr_iload_n (n := 5) (j := 2) C dd_X8_skipped_0.2.2.2.2.1 rfl rfl ?_
  refine xr_aload_n (n := 6) (j := 0) C dd_X8_skipped_0.2.2.2.2.2.1 rfl rfl ?_
  refine xr_get (n := 9) C 0 rfl rfl 1 (by decide) in_X8 u_1203 rfl (v := .int wk) rfl dd_X8_skipped_0.2.2.2.2.2.2.1 rfl ?_
  refine xr_icmp_ge (tgt := 31) (n := 12) C dd_X8_skipped_0.2.2.2.2.2.2.2.1 rfl rfl (fun c_3 => ?_) (fun c_3 => ?_)
  · replace ho_1 := yf_t c_3 ho_1
    refine xr_lv (lv' := [(0, .ref w), (1, .int s_1.1)]) [0, 1] rfl ?_
    have e_4 := hx_1 _ (Option.some.inj ho_1).symm
    subst e_4
    exact K_1
  · replace ho_1 := yf_f c_3 ho_1
    refine xr_iload_n (n := 13) (j := 1) C dd_X8_skipped_0.2.2.2.2.2.2.2.2.1 rfl rfl ?_
    refine xr_aload_n (n := 14) (j := 0) C dd_X8_skipped_0.2.2.2.2.2.2.2.2.2.1 rfl rfl ?_
    refine xr_iload_n (n := 15) (j := 2) C dd_X8_skipped_0.2.2.2.2.2.2.2.2.2.2.1 rfl rfl ?_
    obtain ⟨x_5, hx_5, ho_1⟩ := yf_b ho_1
    refine xr_callVp (n := 18) (As := [.int s_1.2]) (rest := [.int s_1.1]) C (kX8_isIdle l D cy (w := w) (wr := wr) (wk := wk) (wc := wc) (wg := wg) (ws := ws) (wa := wa) (wb := wb) (wad := wad) (wan := wan) (wak := wak) (waG := waG) (wbd := wbd) (wbn := wbn) (wbk := wbk) (wbG := wbG) (i1 := s_1.2) hx_5) mX8_isIdle u_1367 u_1368 u_1369 0 rfl rfl 5 [0, 1, 2, 3, 4] [] rfl (by decide +kernel) rfl rfl rfl rfl (Nat.le_of_ble_eq_true rfl) (Nat.le_of_ble_eq_true rfl) (Nat.le_of_ble_eq_true rfl) (Nat.le_of_ble_eq_true rfl) (Nat.le_of_ble_eq_true rfl) dd_X8_skipped_0.2.2.2.2.2.2.2.2.2.2.2.1 rfl (fun _ _ hp => hp.2) (fun v_6 hp_8 => ?_)
    obtain ⟨rfl, -⟩ := hp_8
    refine xr_st (st' := [.int x_5, .int s_1.1]) rfl ?_
    obtain ⟨x_9, hx_9, ho_1⟩ := yf_b ho_1
    refine xr_callSNp (n := 21) (As := [.int x_5]) (rest := [.int s_1.1]) C (kX9_one l D cy (i1 := x_5) hx_9) mX9_one (host := RX9) (List.mem_of_getElem? (i := 60) rfl) u_1313 5 [] [0, 1, 2, 3, 4] rfl (by decide +kernel) rfl rfl rfl rfl (Nat.le_of_ble_eq_true rfl) (Nat.le_of_ble_eq_true rfl) (Nat.le_of_ble_eq_true rfl) (Nat.le_of_ble_eq_true rfl) (Nat.le_of_ble_eq_true rfl) dd_X8_skipped_0.2.2.2.2.2.2.2.2.2.2.2.2.1 rfl (fun _ _ hp => hp.2) (fun v_10 hp_12 => ?_)
    obtain ⟨rfl, -⟩ := hp_12
    refine xr_st (st' := [.int x_9, .int s_1.1]) rfl ?_
    refine xr_iload_n (n := 22) (j := 2) C dd_X8_skipped_0.2.2.2.2.2.2.2.2.2.2.2.2.2.1 rfl rfl ?_
    refine xr_ishl (n := 23) C dd_X8_skipped_0.2.2.2.2.2.2.2.2.2.2.2.2.2.2.1 rfl ?_
    refine xr_ior (n := 24) C dd_X8_skipped_0.2.2.2.2.2.2.2.2.2.2.2.2.2.2.2.1 rfl ?_
    refine xr_istore_n (n := 25) C [(1, .int (s_1.1 ||| (x_9 <<< (s_1.2 &&& 31)))), (0, .ref w), (2, .int s_1.2)] dd_X8_skipped_1.1 (by decide) rfl rfl ?_
    refine xr_iinc (j := 2) (v := s_1.2 + 1) (n := 28) C [(2, .int (s_1.2 + 1)), (1, .int (s_1.1 ||| (x_9 <<< (s_1.2 &&& 31)))), (0, .ref w)] dd_X8_skipped_1.2.1 rfl rfl (by decide) rfl rfl ?_
    refine xr_goto (tgt := 4) C dd_X8_skipped_1.2.2.1 rfl ?_
    refine xr_lv (lv' := [(0, .ref w), (1, .int (s_1.1 ||| (x_9 <<< (s_1.2 &&& 31)))), (2, .int (s_1.2 + 1))]) [2, 1, 0] rfl ?_
    exact hk_1 (s_1.1 ||| (x_9 <<< (s_1.2 &&& 31)), s_1.2 + 1) (Option.some.inj ho_1).symm
theorem dd_X8_steps_0 : dk_R cX8_steps [(0, .aload_n 0, 1), (1, .getfield 36, 3), (4, .aload_n 0, 1), (5, .invokevirtual 43, 3), (8, .invokestatic 47, 3), (11, .isub, 1), (12, .ireturn, 1)] := dk_use _ _ (by decide +kernel)
def fX8_steps (wk : Int32) (wg : Int32) (wan : Nat) (wak : Nat) (waG : Nat → Nat → Int32) (wbn : Nat) (wbk : Nat) (wbG : Nat → Nat → Int32) : Option (Int32) := ((fX8_skipped wk wg wan wak waG wbn wbk wbG).bind fun x_1 => ((fJ6_bitCount_0f7a4 x_1).bind fun x_5 => some (wk - x_5)))
abbrev hX8_steps : Cond := .code yX8_steps cX8_steps 1 (some .int)
theorem mX8_steps : yM yX8_steps hX8_steps 0 := ⟨u_1362, u_65, by decide +kernel, by decide +kernel, by decide +kernel⟩
set_option maxHeartbeats 4000000 in
set_option maxRecDepth 100000 in
theorem kX8_steps (l : Launch) (D : va_G) (cy : Nat → ClassId) (w : Nat) (wr : Int32) (wk : Int32) (wc : Int32) (wg : Int32) (ws : Int32) (wa : Nat) (wb : Nat) (wad : Nat → Nat) (wan : Nat) (wak : Nat) (waG : Nat → Nat → Int32) (wbd : Nat → Nat) (wbn : Nat) (wbk : Nat) (wbG : Nat → Nat → Int32) {res : Int32} (hR : fX8_steps wk wg wan wak waG wbn wbk wbG = some res) : YM l D cy yX8_steps hX8_steps 3 0 0 [.ref w] [[(w, .inr (10, [.int wr, .int wk, .int wc, .int wg, .int ws, .ref wa, .ref wb]))], [(wa, .inl (cy 3, wan, .inr (.inr (.inr (.inr (yad wad))))))], xg_rows wad wan (cy 1) wak waG, [(wb, .inl (cy 3, wbn, .inr (.inr (.inr (.inr (yad wbd))))))], xg_rows wbd wbn (cy 1) wbk wbG] (fun v u => v = some (.int res) ∧ u = [[(w, .inr (10, [.int wr, .int wk, .int wc, .int wg, .int ws, .ref wa, .ref wb]))], [(wa, .inl (cy 3, wan, .inr (.inr (.inr (.inr (yad wad))))))], xg_rows wad wan (cy 1) wak waG, [(wb, .inl (cy 3, wbn, .inr (.inr (.inr (.inr (yad wbd))))))], xg_rows wbd wbn (cy 1) wbk wbG]) := by
  unfold fX8_steps at hR
  refine YM.ofI (cc := cX8_steps) (maxL := 1) (ret := (some .int)) (by decide +kernel) rfl (Nat.le_of_ble_eq_true rfl) [(0, .ref w)] rfl rfl (fun p e s m args below meth c A H0 Q C hnm ret => ?_)
  refine xr_aload_n (n := 1) (j := 0) C dd_X8_steps_0.1 rfl rfl ?_
  refine xr_get (n := 4) C 0 rfl rfl 1 (by decide) in_X8 u_1203 rfl (v := .int wk) rfl dd_X8_steps_0.2.1 rfl ?_
  refine xr_aload_n (n := 5) (j := 0) C dd_X8_steps_0.2.2.1 rfl rfl ?_
  obtain ⟨x_1, hx_1, hR⟩ := yf_b hR
  refine xr_callVp (n := 8) (As := []) (rest := [.int wk]) C (kX8_skipped l D cy (w := w) (wr := wr) (wk := wk) (wc := wc) (wg := wg) (ws := ws) (wa := wa) (wb := wb) (wad := wad) (wan := wan) (wak := wak) (waG := waG) (wbd := wbd) (wbn := wbn) (wbk := wbk) (wbG := wbG) hx_1) mX8_skipped u_1363 u_1364 u_1365 0 rfl rfl 5 [0, 1, 2, 3, 4] [] rfl (by decide +kernel) rfl rfl rfl rfl (Nat.le_of_ble_eq_true rfl) (Nat.le_of_ble_eq_true rfl) (Nat.le_of_ble_eq_true rfl) (Nat.le_of_ble_eq_true rfl) (Nat.le_of_ble_eq_true rfl) dd_X8_steps_0.2.2.2.1 rfl (fun _ _ hp => hp.2) (fun v_2 hp_4 => ?_)
  obtain ⟨rfl, -⟩ := hp_4
  refine xr_st (st' := [.int x_1, .int wk]) rfl ?_
  obtain ⟨x_5, hx_5, hR⟩ := yf_b hR
  refine xr_callSp (n := 11) (As := [.int x_1]) (rest := [.int wk]) C (kJ6_bitCount_0f7a4 l D cy (i1 := x_1) hx_5) mJ6_bitCount_0f7a4 u_1372 u_349 5 [] [0, 1, 2, 3, 4] rfl (by decide +kernel) rfl rfl rfl rfl (Nat.le_of_ble_eq_true rfl) (Nat.le_of_ble_eq_true rfl) (Nat.le_of_ble_eq_true rfl) (Nat.le_of_ble_eq_true rfl) (Nat.le_of_ble_eq_true rfl) dd_X8_steps_0.2.2.2.2.1 rfl (fun _ _ hp => hp.2) (fun v_6 hp_8 => ?_)
  obtain ⟨rfl, -⟩ := hp_8
  refine xr_st (st' := [.int x_5, .int wk]) rfl ?_
  refine xr_isub (n := 12) C dd_X8_steps_0.2.2.2.2.2.1 rfl ?_
  obtain rfl := Option.some.inj hR
  exact ret (wk - x_5) ⟨rfl, rfl⟩ (Nat.le_of_ble_eq_true rfl) (Nat.le_of_ble_eq_true rfl) dd_X8_steps_0.2.2.2.2.2.2.1
