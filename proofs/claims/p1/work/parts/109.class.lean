theorem u_822 : Cond.methodLink RX5 159 yX4_set ∈ yU := yu_tables_1_4 46 (by decide +kernel) (by decide +kernel)
theorem u_821 : Cond.code yX5_drain cX5_drain 6 none ∈ yU := yu_tables_1_4 45 (by decide +kernel) (by decide +kernel)
theorem u_818 : Cond.methodLink RX5 144 yX5_drain ∈ yU := yu_tables_1_4 42 (by decide +kernel) (by decide +kernel)
theorem u_820 : Cond.instanceMethod yX5_drain ∈ yU := yu_tables_1_4 44 (by decide +kernel) (by decide +kernel)
theorem u_23 : Cond.selects RX5 yX5_drain yX5_drain ∈ yU := yu 23 (by decide +kernel) (by decide +kernel)
theorem u_262 : Cond.fieldLink RX5 50 "Pulsemesh$Work" "takenByTilesDone" "I" ∈ yU := yu_tables_1_1 206 (by decide +kernel) (by decide +kernel)
theorem u_429 : Cond.methodLink RX5 147 yX5_runs ∈ yU := yu_tables_1_2 133 (by decide +kernel) (by decide +kernel)
theorem u_430 : Cond.instanceMethod yX5_runs ∈ yU := yu_tables_1_2 134 (by decide +kernel) (by decide +kernel)
theorem u_431 : Cond.selects RX5 yX5_runs yX5_runs ∈ yU := yu_tables_1_2 135 (by decide +kernel) (by decide +kernel)
theorem u_823 : Cond.methodLink RX5 151 yX3_open ∈ yU := yu_tables_1_4 47 (by decide +kernel) (by decide +kernel)
theorem u_824 : Cond.instanceMethod yX3_open ∈ yU := yu_tables_1_4 48 (by decide +kernel) (by decide +kernel)
theorem u_825 : Cond.selects RX3 yX3_open yX3_open ∈ yU := yu_tables_1_4 49 (by decide +kernel) (by decide +kernel)
theorem u_817 : Cond.code yX5_closeTile cX5_closeTile 3 none ∈ yU := yu_tables_1_4 41 (by decide +kernel) (by decide +kernel)
theorem u_800 : Cond.methodLink RX5 113 yX5_feed ∈ yU := yu_tables_1_4 24 (by decide +kernel) (by decide +kernel)
theorem u_802 : Cond.instanceMethod yX5_feed ∈ yU := yu_tables_1_4 26 (by decide +kernel) (by decide +kernel)
theorem u_21 : Cond.selects RX5 yX5_feed yX5_feed ∈ yU := yu 21 (by decide +kernel) (by decide +kernel)
theorem u_258 : Cond.fieldLink RX5 44 "Pulsemesh$Work" "beatsEve\x72" "I" ∈ yU := yu_tables_1_1 202 (by decide +kernel) (by decide +kernel)
theorem u_451 : Cond.methodLink RX5 117 yX5_beatsOfTile ∈ yU := yu_tables_1_2 155 (by decide +kernel) (by decide +kernel)
theorem u_453 : Cond.instanceMethod yX5_beatsOfTile ∈ yU := yu_tables_1_2 157 (by decide +kernel) (by decide +kernel)
theorem u_12 : Cond.selects RX5 yX5_beatsOfTile yX5_beatsOfTile ∈ yU := yu 12 (by decide +kernel) (by decide +kernel)
theorem u_814 : Cond.methodLink RX5 120 yX5_closeTile ∈ yU := yu_tables_1_4 38 (by decide +kernel) (by decide +kernel)
theorem u_816 : Cond.instanceMethod yX5_closeTile ∈ yU := yu_tables_1_4 40 (by decide +kernel) (by decide +kernel)
theorem u_22 : Cond.selects RX5 yX5_closeTile yX5_closeTile ∈ yU := yu 22 (by decide +kernel) (by decide +kernel)
theorem u_799 : Cond.code yX5_pulse cX5_pulse 5 none ∈ yU := yu_tables_1_4 23 (by decide +kernel) (by decide +kernel)
theorem u_500 : Cond.code yX5_isInLayout cX5_isInLayout 3 (some .boolean) ∈ yU := yu_tables_1_2 204 (by decide +kernel) (by decide +kernel)
theorem u_497 : Cond.methodLink RX5 162 yX5_isInLayout ∈ yU := yu_tables_1_2 201 (by decide +kernel) (by decide +kernel)
theorem u_498 : Cond.instanceMethod yX5_isInLayout ∈ yU := yu_tables_1_2 202 (by decide +kernel) (by decide +kernel)
theorem u_499 : Cond.selects RX5 yX5_isInLayout yX5_isInLayout ∈ yU := yu_tables_1_2 203 (by decide +kernel) (by decide +kernel)
theorem u_501 : Cond.methodLink RX5 166 yX5_placeOf ∈ yU := yu_tables_1_2 205 (by decide +kernel) (by decide +kernel)
theorem u_502 : Cond.static yX5_placeOf ∈ yU := yu_tables_1_2 206 (by decide +kernel) (by decide +kernel)
theorem u_496 : Cond.code yX5_isInTile cX5_isInTile 3 (some .boolean) ∈ yU := yu_tables_1_2 200 (by decide +kernel) (by decide +kernel)
theorem u_509 : Cond.methodLink RX5 169 yX5_isInTile ∈ yU := yu_tables_1_2 213 (by decide +kernel) (by decide +kernel)
theorem u_494 : Cond.instanceMethod yX5_isInTile ∈ yU := yu_tables_1_2 198 (by decide +kernel) (by decide +kernel)
theorem u_495 : Cond.selects RX5 yX5_isInTile yX5_isInTile ∈ yU := yu_tables_1_2 199 (by decide +kernel) (by decide +kernel)
theorem u_508 : Cond.code yX5_lastStepOf cX5_lastStepOf 4 (some .int) ∈ yU := yu_tables_1_2 212 (by decide +kernel) (by decide +kernel)
theorem dd_X5_drain_0 : dk_R cX5_drain [(0, .iconst 0, 1), (1, .istore_n 3, 1), (2, .iload_n 3, 1), (3, .aload_n 0, 1), (4, .invokevirtual 104, 3), (7, .if_icmp .ge 81, 3), (10, .iconst 0, 1), (11, .istore 4, 2), (13, .iload 4, 2), (15, .aload_n 0, 1), (16, .invokevirtual 107, 3), (19, .if_icmp .ge 63, 3), (22, .aload_n 1, 1), (23, .getfield 71, 3), (26, .aload_n 0, 1), (27, .getfield 21, 3)] := dk_use _ _ (by decide +kernel)
theorem dd_X5_drain_1 : dk_R cX5_drain [(30, .getfield 127, 3), (33, .iload_n 3, 1), (34, .invokestatic 124, 3), (37, .aload_n 0, 1), (38, .getfield 21, 3), (41, .getfield 130, 3), (44, .iload 4, 2), (46, .invokestatic 124, 3), (49, .invokevirtual 133, 3), (52, .istore 5, 2), (54, .aload_n 2, 1), (55, .getfield 156, 3), (58, .aload_n 0, 1), (59, .getfield 32, 3), (62, .iload_n 3, 1), (63, .iadd, 1)] := dk_use _ _ (by decide +kernel)
theorem dd_X5_drain_2 : dk_R cX5_drain [(64, .aload_n 0, 1), (65, .getfield 35, 3), (68, .iload 4, 2), (70, .iadd, 1), (71, .iload 5, 2), (73, .invokevirtual 159, 3), (76, .iinc 4 1, 3), (79, .goto (-66), 3), (82, .iinc 3 1, 3), (85, .goto (-83), 3), (88, .return_, 1)] := dk_use _ _ (by decide +kernel)
def fX5_drain (ofr : Int32) (ofc : Int32) (oy0 : Int32) (oy1 : Int32) (oy3 : Int32) (oy4 : Int32) (oy5 : Int32) (oy6 : Int32) (wmf : Nat → Int32) (zvf : Nat → Int32) : Option (Nat → Int32) := ((wl (S := Int32 × (Nat → Int32)) (B := Int32 × (Nat → Int32)) (fun s_1 => ((fX5_tileRows ofr oy0 oy5).bind fun x_2 => (if x_2 ≤ s_1.1 then some (.inr (s_1.1, s_1.2)) else ((wl (S := Int32 × (Nat → Int32)) (B := Int32 × (Nat → Int32)) (fun s_8 => ((fX5_tileColumns ofc oy1 oy6).bind fun x_9 => (if x_9 ≤ s_8.1 then some (.inr (s_8.1, s_8.2)) else ((fX5_memberOf oy3 s_1.1).bind fun x_15 => ((fX5_memberOf oy4 s_8.1).bind fun x_19 => ((fX4_get wmf x_15 x_19).bind fun x_23 => ((fX4_set s_8.2 (ofr + s_1.1) (ofc + s_8.1) x_23).bind fun x_27 => some (.inl (s_8.1 + 1, x_27))))))))) yFuel (0, s_1.2)).bind fun b_8 => some (.inl (s_1.1 + 1, b_8.2)))))) yFuel (0, zvf)).bind fun b_1 => some b_1.2)
abbrev hX5_drain : Cond := .code yX5_drain cX5_drain 6 none
theorem mX5_drain : yM yX5_drain hX5_drain 2 := ⟨u_821, u_62, by decide +kernel, by decide +kernel, by decide +kernel⟩
set_option maxHeartbeats 4000000 in
set_option maxRecDepth 100000 in
theorem kX5_drain (l : Launch) (D : va_G) (cy : Nat → ClassId) (o : Nat) (oj : Nat) (oy : Nat) (osk : Int32) (oti : Int32) (ofr : Int32) (ofc : Int32) (obt : Int32) (obl : Int32) (obe : Int32) (ose : Int32) (otk : Int32) (oy0 : Int32) (oy1 : Int32) (oy2 : Int32) (oy3 : Int32) (oy4 : Int32) (oy5 : Int32) (oy6 : Int32) (oy7 : Int32) (oy8 : Int32) (oy9 : Int32) (w : Nat) (wu : Nat) (wm : Nat) (wb : Int32) (wk : Int32) (wmn : Nat) (wmf : Nat → Int32) (z : Nat) (zv : Nat) (zr : Int32) (zc : Int32) (zs : Int32) (zvn : Nat) (zvf : Nat → Int32) {res : Nat → Int32} (hR : fX5_drain ofr ofc oy0 oy1 oy3 oy4 oy5 oy6 wmf zvf = some res) : YM l D cy yX5_drain hX5_drain 2 0 0 [.ref o, .ref w, .ref z] [[(o, .inr (7, [.ref oj, .ref oy, .int osk, .int oti, .int ofr, .int ofc, .int obt, .int obl, .int obe, .int ose, .int otk]))], [(oy, .inr (4, [.int oy0, .int oy1, .int oy2, .int oy3, .int oy4, .int oy5, .int oy6, .int oy7, .int oy8, .int oy9]))], [(w, .inr (2, [.ref wu, .ref wm, .int wb, .int wk]))], [(wm, .inr (6, [.ref wmn]))], [(wmn, .inl (cy 1, 81, .inl wmf))], [(z, .inr (5, [.ref zv, .int zr, .int zc, .int zs]))], [(zv, .inr (6, [.ref zvn]))], [(zvn, .inl (cy 1, 81, .inl zvf))]] (fun v u => v = none ∧ u = [[(o, .inr (7, [.ref oj, .ref oy, .int osk, .int oti, .int ofr, .int ofc, .int obt, .int obl, .int obe, .int ose, .int otk]))], [(oy, .inr (4, [.int oy0, .int oy1, .int oy2, .int oy3, .int oy4, .int oy5, .int oy6, .int oy7, .int oy8, .int oy9]))], [(w, .inr (2, [.ref wu, .ref wm, .int wb, .int wk]))], [(wm, .inr (6, [.ref wmn]))], [(wmn, .inl (cy 1, 81, .inl wmf))], [(z, .inr (5, [.ref zv, .int zr, .int zc, .int zs]))], [(zv, .inr (6, [.ref zvn]))], [(zvn, .inl (cy 1, 81, .inl res))]]) := by
  unfold fX5_drain at hR
  refine YM.ofV (cc := cX5_drain) (maxL := 6) (ret := none) (by decide +kernel) rfl (Nat.le_of_ble_eq_true rfl) [(0, .ref o), (1, .ref w), (2, .ref z)] rfl rfl (fun p e s m args below meth c A H0 Q C hnm ret => ?_)
  refine xr_iconst (n := 1) (v := 0) C dd_X5_drain_0.1 rfl rfl ?_
  refine xr_istore_n (n := 2) C [(3, .int 0), (0, .ref o), (1, .ref w), (2, .ref z)] dd_X5_drain_0.2.1 (by decide) rfl rfl ?_
  refine xr_lv (lv' := [(0, .ref o), (1, .ref w), (2, .ref z), (3, .int 0)]) [1, 2, 3, 0] rfl ?_
  obtain ⟨b_1, hb_1, hR⟩ := yf_b hR
  have K_1 : X p l e (yR 2 0 0) s m args below meth c D A H0 6 Q [[(o, .inr (7, [.ref oj, .ref oy, .int osk, .int oti, .int ofr, .int ofc, .int obt, .int obl, .int obe, .int ose, .int otk]))], [(oy, .inr (4, [.int oy0, .int oy1, .int oy2, .int oy3, .int oy4, .int oy5, .int oy6, .int oy7, .int oy8, .int oy9]))], [(w, .inr (2, [.ref wu, .ref wm, .int wb, .int wk]))], [(wm, .inr (6, [.ref wmn]))], [(wmn, .inl (cy 1, 81, .inl wmf))], [(z, .inr (5, [.ref zv, .int zr, .int zc, .int zs]))], [(zv, .inr (6, [.ref zvn]))], [(zvn, .inl (cy 1, 81, .inl b_1.2))]] 0 0 [] 88 [] := by
    obtain rfl := Option.some.inj hR
    exact ret ⟨rfl, rfl⟩ (Nat.le_of_ble_eq_true rfl) (Nat.le_of_ble_eq_true rfl) dd_X5_drain_2.2.2.2.2.2.2.2.2.2.2.1
  refine y_loop (P := fun (s_1 : Int32 × (Nat → Int32)) => X p l e (yR 2 0 0) s m args below meth c D A H0 6 Q [[(o, .inr (7, [.ref oj, .ref oy, .int osk, .int oti, .int ofr, .int ofc, .int obt, .int obl, .int obe, .int ose, .int otk]))], [(oy, .inr (4, [.int oy0, .int oy1, .int oy2, .int oy3, .int oy4, .int oy5, .int oy6, .int oy7, .int oy8, .int oy9]))], [(w, .inr (2, [.ref wu, .ref wm, .int wb, .int wk]))], [(wm, .inr (6, [.ref wmn]))], [(wmn, .inl (cy 1, 81, .inl wmf))], [(z, .inr (5, [.ref zv, .int zr, .int zc, .int zs]))], [(zv, .inr (6, [.ref zvn]))], [(zvn, .inl (cy 1, 81, .inl s_1.2))]] 0 0 [(0, .ref o), (1, .ref w), (2, .ref z), (3, .int s_1.1)] 2 []) ?_ _ (0, zvf) hb_1
  intro s_1 o_1 ho_1 hk_1 hx_1
  refine xr_iload_n (n := 3) (j := 3) C dd_X5_drain_0.2.2.1 rfl rfl ?_
  refine xr_aload_n (n := 4) (j := 0) C dd_X5_drain_0.2.2.2.1 rfl rfl ?_
  obtain ⟨x_2, hx_2, ho_1⟩ := yf_b ho_1
  refine xr_callVp (n := 7) (As := []) (rest := [.int s_1.1]) C (kX5_tileRows l D cy (o := o) (oj := oj) (oy := oy) (osk := osk) (oti := oti) (ofr := ofr) (ofc := ofc) (obt := obt) (obl := obl) (obe := obe) (ose := ose) (otk := otk) (oy0 := oy0) (oy1 := oy1) (oy2 := oy2) (oy3 := oy3) (oy4 := oy4) (oy5 := oy5) (oy6 := oy6) (oy7 := oy7) (oy8 := oy8) (oy9 := oy9) hx_2) mX5_tileRows u_433 u_435 u_10 0 rfl rfl 8 [0, 1] [2, 3, 4, 5, 6, 7] rfl (by decide +kernel) rfl rfl rfl rfl (Nat.le_of_ble_eq_true rfl) (Nat.le_of_ble_eq_true rfl) (Nat.le_of_ble_eq_true rfl) (Nat.le_of_ble_eq_true rfl) (Nat.le_of_ble_eq_true rfl) dd_X5_drain_0.2.2.2.2.1 rfl (fun _ _ hp => hp.2) (fun v_3 hp_5 => ?_)
  obtain ⟨rfl, -⟩ := hp_5
  refine xr_st (st' := [.int x_2, .int s_1.1]) rfl ?_
  refine xr_icmp_ge (tgt := 88) (n := 10) C dd_X5_drain_0.2.2.2.2.2.1 rfl rfl (fun c_6 => ?_) (fun c_6 => ?_)
  · replace ho_1 := yf_t c_6 ho_1
    refine xr_lv (lv' := []) [] rfl ?_
    have e_7 := hx_1 _ (Option.some.inj ho_1).symm
    subst e_7
    exact K_1
  · replace ho_1 := yf_f c_6 ho_1
    refine xr_iconst (n := 11) (v := 0) C dd_X5_drain_0.2.2.2.2.2.2.1 rfl rfl ?_
    refine xr_istore (n := 13) C [(4, .int 0), (0, .ref o), (1, .ref w), (2, .ref z), (3, .int s_1.1)] dd_X5_drain_0.2.2.2.2.2.2.2.1 (by decide) rfl rfl ?_
    refine xr_lv (lv' := [(0, .ref o), (1, .ref w), (2, .ref z), (3, .int s_1.1), (4, .int 0)]) [1, 2, 3, 4, 0] rfl ?_
    obtain ⟨b_8, hb_8, ho_1⟩ := yf_b ho_1
    have K_8 : X p l e (yR 2 0 0) s m args below meth c D A H0 6 Q [[(o, .inr (7, [.ref oj, .ref oy, .int osk, .int oti, .int ofr, .int ofc, .int obt, .int obl, .int obe, .int ose, .int otk]))], [(oy, .inr (4, [.int oy0, .int oy1, .int oy2, .int oy3, .int oy4, .int oy5, .int oy6, .int oy7, .int oy8, .int oy9]))], [(w, .inr (2, [.ref wu, .ref wm, .int wb, .int wk]))], [(wm, .inr (6, [.ref wmn]))], [(wmn, .inl (cy 1, 81, .inl wmf))], [(z, .inr (5, [.ref zv, .int zr, .int zc, .int zs]))], [(zv, .inr (6, [.ref zvn]))], [(zvn, .inl (cy 1, 81, .inl b_8.2))]] 0 0 [(0, .ref o), (1, .ref w), (2, .ref z), (3, .int s_1.1)] 82 [] := by
      refine xr_iinc (j := 3) (v := s_1.1 + 1) (n := 85) C [(3, .int (s_1.1 + 1)), (0, .ref o), (1, .ref w), (2, .ref z)] dd_X5_drain_2.2.2.2.2.2.2.2.2.1 rfl rfl (by decide) rfl rfl ?_
      refine xr_goto (tgt := 2) C dd_X5_drain_2.2.2.2.2.2.2.2.2.2.1 rfl ?_
      refine xr_lv (lv' := [(0, .ref o), (1, .ref w), (2, .ref z), (3, .int (s_1.1 + 1))]) [1, 2, 3, 0] rfl ?_
      exact hk_1 (s_1.1 + 1, b_8.2) (Option.some.inj ho_1).symm
    refine y_loop (P := fun (s_8 : Int32 × (Nat → Int32)) => X p l e (yR 2 0 0) s m args below meth c D A H0 6 Q [[(o, .inr (7, [.ref oj, .ref oy, .int osk, .int oti, .int ofr, .int ofc, .int obt, .int obl, .int obe, .int ose, .int otk]))], [(oy, .inr (4, [.int oy0, .int oy1, .int oy2, .int oy3, .int oy4, .int oy5, .int oy6, .int oy7, .int oy8, .int oy9]))], [(w, .inr (2, [.ref wu, .ref wm, .int wb, .int wk]))], [(wm, .inr (6, [.ref wmn]))], [(wmn, .inl (cy 1, 81, .inl wmf))], [(z, .inr (5, [.ref zv, .int zr, .int zc, .int zs]))], [(zv, .inr (6, [.ref zvn]))], [(zvn, .inl (cy 1, 81, .inl s_8.2))]] 0 0 [(0, .ref o), (1, .ref w), (2, .ref z), (3, .int s_1.1), (4, .int s_8.1)] 13 []) ?_ _ (0, s_1.2) hb_8
    intro s_8 o_8 ho_8 hk_8 hx_8
    refine xr_iload (n := 15) (j := 4) C dd_X5_drain_0.2.2.2.2.2.2.2.2.1 rfl rfl ?_
    refine xr_aload_n (n := 16) (j := 0) C dd_X5_drain_0.2.2.2.2.2.2.2.2.2.1 rfl rfl ?_
    obtain ⟨x_9, hx_9, ho_8⟩ := yf_b ho_8
    refine xr_callVp (n := 19) (As := []) (rest := [.int s_8.1]) C (kX5_tileColumns l D cy (o := o) (oj := oj) (oy := oy) (osk := osk) (oti := oti) (ofr := ofr) (ofc := ofc) (obt := obt) (obl := obl) (obe := obe) (ose := ose) (otk := otk) (oy0 := oy0) (oy1 := oy1) (oy2 := oy2) (oy3 := oy3) (oy4 := oy4) (oy5 := oy5) (oy6 := oy6) (oy7 := oy7) (oy8 := oy8) (oy9 := oy9) hx_9) mX5_tileColumns u_440 u_442 u_11 0 rfl rfl 8 [0, 1] [2, 3, 4, 5, 6, 7] rfl (by decide +kernel) rfl rfl rfl rfl (Nat.le_of_ble_eq_true rfl) (Nat.le_of_ble_eq_true rfl) (Nat.le_of_ble_eq_true rfl) (Nat.le_of_ble_eq_true rfl) (Nat.le_of_ble_eq_true rfl) dd_X5_drain_0.2.2.2.2.2.2.2.2.2.2.1 rfl (fun _ _ hp => hp.2) (fun v_10 hp_12 => ?_)
    obtain ⟨rfl, -⟩ := hp_12
    refine xr_st (st' := [.int x_9, .int s_8.1]) rfl ?_
    refine xr_icmp_ge (tgt := 82) (n := 22) C dd_X5_drain_0.2.2.2.2.2.2.2.2.2.2.2.1 rfl rfl (fun c_13 => ?_) (fun c_13 => ?_)
    · replace ho_8 := yf_t c_13 ho_8
      refine xr_lv (lv' := [(0, .ref o), (1, .ref w), (2, .ref z), (3, .int s_1.1)]) [0, 1, 2, 3] rfl ?_
      have e_14 := hx_8 _ (Option.some.inj ho_8).symm
      subst e_14
      exact K_8
    · replace ho_8 := yf_f c_13 ho_8
      refine xr_aload_n (n := 23) (j := 1) C dd_X5_drain_0.2.2.2.2.2.2.2.2.2.2.2.2.1 rfl rfl ?_
      refine xr_getN (n := 26) C 2 rfl rfl 1 (by decide) in_X0 RX6 (List.mem_of_getElem? (i := 13) rfl) rfl (v := .ref wm) rfl dd_X5_drain_0.2.2.2.2.2.2.2.2.2.2.2.2.2.1 rfl ?_
      refine xr_aload_n (n := 27) (j := 0) C dd_X5_drain_0.2.2.2.2.2.2.2.2.2.2.2.2.2.2.1 rfl rfl ?_
      refine xr_get (n := 30) C 0 rfl rfl 1 (by decide) in_X5 u_249 rfl (v := .ref oy) rfl dd_X5_drain_0.2.2.2.2.2.2.2.2.2.2.2.2.2.2.2.1 rfl ?_
      refine xr_getN (n := 33) C 1 rfl rfl 3 (by decide) in_X2 RX6 (List.mem_of_getElem? (i := 31) rfl) rfl (v := .int oy3) rfl dd_X5_drain_1.1 rfl ?_
      refine xr_iload_n (n := 34) (j := 3) C dd_X5_drain_1.2.1 rfl rfl ?_
      obtain ⟨x_15, hx_15, ho_8⟩ := yf_b ho_8
      refine xr_callSp (n := 37) (As := [.int oy3, .int s_1.1]) (rest := [.ref wm]) C (kX5_memberOf l D cy (i1 := oy3) (i2 := s_1.1) hx_15) mX5_memberOf u_804 u_805 8 [] [0, 1, 2, 3, 4, 5, 6, 7] rfl (by decide +kernel) rfl rfl rfl rfl (Nat.le_of_ble_eq_true rfl) (Nat.le_of_ble_eq_true rfl) (Nat.le_of_ble_eq_true rfl) (Nat.le_of_ble_eq_true rfl) (Nat.le_of_ble_eq_true rfl) dd_X5_drain_1.2.2.1 rfl (fun _ _ hp => hp.2) (fun v_16 hp_18 => ?_)
      obtain ⟨rfl, -⟩ := hp_18
      refine xr_st (st' := [.int x_15, .ref wm]) rfl ?_
      refine xr_aload_n (n := 38) (j := 0) C dd_X5_drain_1.2.2.2.1 rfl rfl ?_
      refine xr_get (n := 41) C 0 rfl rfl 1 (by decide) in_X5 u_249 rfl (v := .ref oy) rfl dd_X5_drain_1.2.2.2.2.1 rfl ?_
      refine xr_getN (n := 44) C 1 rfl rfl 4 (by decide) in_X2 RX6 (List.mem_of_getElem? (i := 33) rfl) rfl (v := .int oy4) rfl dd_X5_drain_1.2.2.2.2.2.1 rfl ?_
      refine xr_iload (n := 46) (j := 4) C dd_X5_drain_1.2.2.2.2.2.2.1 rfl rfl ?_
      obtain ⟨x_19, hx_19, ho_8⟩ := yf_b ho_8
      refine xr_callSp (n := 49) (As := [.int oy4, .int s_8.1]) (rest := [.int x_15, .ref wm]) C (kX5_memberOf l D cy (i1 := oy4) (i2 := s_8.1) hx_19) mX5_memberOf u_804 u_805 8 [] [0, 1, 2, 3, 4, 5, 6, 7] rfl (by decide +kernel) rfl rfl rfl rfl (Nat.le_of_ble_eq_true rfl) (Nat.le_of_ble_eq_true rfl) (Nat.le_of_ble_eq_true rfl) (Nat.le_of_ble_eq_true rfl) (Nat.le_of_ble_eq_true rfl) dd_X5_drain_1.2.2.2.2.2.2.2.1 rfl (fun _ _ hp => hp.2) (fun v_20 hp_22 => ?_)
      obtain ⟨rfl, -⟩ := hp_22
      refine xr_st (st' := [.int x_19, .int x_15, .ref wm]) rfl ?_
      obtain ⟨x_23, hx_23, ho_8⟩ := yf_b ho_8
      refine xr_callVp (n := 52) (As := [.int x_15, .int x_19]) (rest := []) C (kX4_get l D cy (h := wm) (hn := wmn) (hf := wmf) (row := x_15) (col := x_19) hx_23) mX4_get u_807 u_341 u_342 3 rfl rfl 8 [3, 4] [0, 1, 2, 5, 6, 7] rfl (by decide +kernel) rfl rfl rfl rfl (Nat.le_of_ble_eq_true rfl) (Nat.le_of_ble_eq_true rfl) (Nat.le_of_ble_eq_true rfl) (Nat.le_of_ble_eq_true rfl) (Nat.le_of_ble_eq_true rfl) dd_X5_drain_1.2.2.2.2.2.2.2.2.1 rfl (fun _ _ hp => hp.2) (fun v_24 hp_26 => ?_)
      obtain ⟨rfl, -⟩ := hp_26
      refine xr_st (st' := [.int x_23]) rfl ?_
      refine xr_istore (n := 54) C [(5, .int x_23), (0, .ref o), (1, .ref w), (2, .ref z), (3, .int s_1.1), (4, .int s_8.1)] dd_X5_drain_1.2.2.2.2.2.2.2.2.2.1 (by decide) rfl rfl ?_
      refine xr_aload_n (n := 55) (j := 3) C dd_X5_drain_1.2.2.2.2.2.2.2.2.2.2.1 rfl rfl ?_
      refine xr_getN (n := 58) C 5 rfl rfl 0 (by decide) in_X3 RX6 (List.mem_of_getElem? (i := 20) rfl) rfl (v := .ref zv) rfl dd_X5_drain_1.2.2.2.2.2.2.2.2.2.2.2.1 rfl ?_
      refine xr_aload_n (n := 59) (j := 1) C dd_X5_drain_1.2.2.2.2.2.2.2.2.2.2.2.2.1 rfl rfl ?_
      refine xr_get (n := 62) C 0 rfl rfl 4 (by decide) in_X5 u_253 rfl (v := .int ofr) rfl dd_X5_drain_1.2.2.2.2.2.2.2.2.2.2.2.2.2.1 rfl ?_
      refine xr_iload_n (n := 63) (j := 4) C dd_X5_drain_1.2.2.2.2.2.2.2.2.2.2.2.2.2.2.1 rfl rfl ?_
      refine xr_iadd (n := 64) C dd_X5_drain_1.2.2.2.2.2.2.2.2.2.2.2.2.2.2.2.1 rfl ?_
      refine xr_aload_n (n := 65) (j := 1) C dd_X5_drain_2.1 rfl rfl ?_
      refine xr_get (n := 68) C 0 rfl rfl 5 (by decide) in_X5 u_254 rfl (v := .int ofc) rfl dd_X5_drain_2.2.1 rfl ?_
      refine xr_iload (n := 70) (j := 5) C dd_X5_drain_2.2.2.1 rfl rfl ?_
      refine xr_iadd (n := 71) C dd_X5_drain_2.2.2.2.1 rfl ?_
      refine xr_iload (n := 73) (j := 0) C dd_X5_drain_2.2.2.2.2.1 rfl rfl ?_
      obtain ⟨x_27, hx_27, ho_8⟩ := yf_b ho_8
      refine xr_callV (n := 76) (As := [.int (ofr + s_1.1), .int (ofc + s_8.1), .int x_23]) (rest := []) C (kX4_set l D cy (h := zv) (hn := zvn) (hf := s_8.2) (row := ofr + s_1.1) (col := ofc + s_8.1) (num := x_23) hx_27) mX4_set u_822 u_680 u_681 6 rfl rfl 8 [6, 7] [0, 1, 2, 3, 4, 5] rfl (by decide +kernel) rfl rfl rfl rfl (Nat.le_of_ble_eq_true rfl) (Nat.le_of_ble_eq_true rfl) (Nat.le_of_ble_eq_true rfl) (Nat.le_of_ble_eq_true rfl) (Nat.le_of_ble_eq_true rfl) dd_X5_drain_2.2.2.2.2.2.1 rfl (fun v_28 u_29 hp_30 => ?_)
      obtain ⟨rfl, rfl⟩ := hp_30
      refine xr_perm C 8 [2, 3, 4, 5, 6, 7, 0, 1] [] [[(o, .inr (7, [.ref oj, .ref oy, .int osk, .int oti, .int ofr, .int ofc, .int obt, .int obl, .int obe, .int ose, .int otk]))], [(oy, .inr (4, [.int oy0, .int oy1, .int oy2, .int oy3, .int oy4, .int oy5, .int oy6, .int oy7, .int oy8, .int oy9]))], [(w, .inr (2, [.ref wu, .ref wm, .int wb, .int wk]))], [(wm, .inr (6, [.ref wmn]))], [(wmn, .inl (cy 1, 81, .inl wmf))], [(z, .inr (5, [.ref zv, .int zr, .int zc, .int zs]))], [(zv, .inr (6, [.ref zvn]))], [(zvn, .inl (cy 1, 81, .inl x_27))]] rfl (by decide +kernel) rfl ?_
      refine xr_iinc (j := 5) (v := s_8.1 + 1) (n := 79) C [(4, .int (s_8.1 + 1)), (5, .int x_23), (0, .ref o), (1, .ref w), (2, .ref z), (3, .int s_1.1)] dd_X5_drain_2.2.2.2.2.2.2.1 rfl rfl (by decide) rfl rfl ?_
      refine xr_goto (tgt := 13) C dd_X5_drain_2.2.2.2.2.2.2.2.1 rfl ?_
      refine xr_lv (lv' := [(0, .ref o), (1, .ref w), (2, .ref z), (3, .int s_1.1), (4, .int (s_8.1 + 1))]) [2, 3, 4, 5, 0] rfl ?_
      exact hk_8 (s_8.1 + 1, x_27) (Option.some.inj ho_8).symm
theorem dd_X5_closeTile_0 : dk_R cX5_closeTile [(0, .aload_n 0, 1), (1, .aload_n 1, 1), (2, .aload_n 2, 1), (3, .invokevirtual 144, 3), (6, .aload_n 0, 1), (7, .dup, 1), (8, .getfield 50, 3), (11, .aload_n 0, 1), (12, .invokevirtual 104, 3), (15, .aload_n 0, 1), (16, .invokevirtual 107, 3), (19, .imul, 1), (20, .aload_n 0, 1), (21, .getfield 21, 3), (24, .getfield 110, 3), (27, .imul, 1)] := dk_use _ _ (by decide +kernel)
theorem dd_X5_closeTile_1 : dk_R cX5_closeTile [(28, .iadd, 1), (29, .putfield 50, 3), (32, .aload_n 0, 1), (33, .dup, 1), (34, .getfield 29, 3), (37, .iconst 1, 1), (38, .iadd, 1), (39, .putfield 29, 3), (42, .aload_n 0, 1), (43, .dup, 1), (44, .getfield 35, 3), (47, .aload_n 0, 1), (48, .getfield 21, 3), (51, .getfield 98, 3), (54, .iadd, 1), (55, .putfield 35, 3)] := dk_use _ _ (by decide +kernel)
theorem dd_X5_closeTile_2 : dk_R cX5_closeTile [(58, .aload_n 0, 1), (59, .getfield 35, 3), (62, .aload_n 0, 1), (63, .getfield 21, 3), (66, .getfield 101, 3), (69, .if_icmp .lt 24, 3), (72, .aload_n 0, 1), (73, .iconst 0, 1), (74, .putfield 35, 3), (77, .aload_n 0, 1), (78, .dup, 1), (79, .getfield 32, 3), (82, .aload_n 0, 1), (83, .getfield 21, 3), (86, .getfield 86, 3), (89, .iadd, 1)] := dk_use _ _ (by decide +kernel)
theorem dd_X5_closeTile_3 : dk_R cX5_closeTile [(90, .putfield 32, 3), (93, .aload_n 0, 1), (94, .invokevirtual 147, 3), (97, .ifCond .eq 11, 3), (100, .aload_n 0, 1), (101, .aload_n 1, 1), (102, .invokevirtual 67, 3), (105, .goto 11, 3), (108, .aload_n 2, 1), (109, .aload_n 0, 1), (110, .getfield 12, 3), (113, .invokevirtual 151, 3), (116, .return_, 1)] := dk_use _ _ (by decide +kernel)
def fX5_closeTile (oti : Int32) (ofr : Int32) (ofc : Int32) (obt : Int32) (obl : Int32) (otk : Int32) (ojr : Int32) (ojc : Int32) (ojg : Int32) (ojs : Int32) (oy0 : Int32) (oy1 : Int32) (oy2 : Int32) (oy3 : Int32) (oy4 : Int32) (oy5 : Int32) (oy6 : Int32) (wmf : Nat → Int32) (zr : Int32) (zc : Int32) (zs : Int32) (zvf : Nat → Int32) : Option (Int32 × Int32 × Int32 × Int32 × Int32 × (Nat → Int32) × Int32 × Int32 × Int32 × (Nat → Int32)) := ((fX5_drain ofr ofc oy0 oy1 oy3 oy4 oy5 oy6 wmf zvf).bind fun x_1 => ((fX5_tileRows ofr oy0 oy5).bind fun x_5 => ((fX5_tileColumns ofc oy1 oy6).bind fun x_9 => ((((if (ofc + oy6) < oy1 then some (ofr, ofc + oy6) else some (ofr + oy5, 0)) : Option (Int32 × Int32))).bind fun r_14 => ((fX5_runs obl).bind fun x_15 => (if x_15 = 0 then ((fX3_open ojr ojc ojs).bind fun x_20 => some (oti + 1, r_14.1, r_14.2, obt, otk + ((x_5 * x_9) * oy2), wmf, x_20.1, x_20.2.1, x_20.2.2, x_1)) else ((fX5_openTile ojg wmf).bind fun x_24 => some (oti + 1, r_14.1, r_14.2, x_24.1, otk + ((x_5 * x_9) * oy2), x_24.2, zr, zc, zs, x_1))))))))
abbrev hX5_closeTile : Cond := .code yX5_closeTile cX5_closeTile 3 none
theorem mX5_closeTile : yM yX5_closeTile hX5_closeTile 2 := ⟨u_817, u_62, by decide +kernel, by decide +kernel, by decide +kernel⟩
set_option maxHeartbeats 4000000 in
set_option maxRecDepth 100000 in
theorem kX5_closeTile (l : Launch) (D : va_G) (cy : Nat → ClassId) (o : Nat) (oj : Nat) (oy : Nat) (osk : Int32) (oti : Int32) (ofr : Int32) (ofc : Int32) (obt : Int32) (obl : Int32) (obe : Int32) (ose : Int32) (otk : Int32) (oja : Nat) (ojb : Nat) (ojr : Int32) (ojk : Int32) (ojc : Int32) (ojg : Int32) (ojs : Int32) (oy0 : Int32) (oy1 : Int32) (oy2 : Int32) (oy3 : Int32) (oy4 : Int32) (oy5 : Int32) (oy6 : Int32) (oy7 : Int32) (oy8 : Int32) (oy9 : Int32) (w : Nat) (wu : Nat) (wm : Nat) (wb : Int32) (wk : Int32) (wmn : Nat) (wmf : Nat → Int32) (z : Nat) (zv : Nat) (zr : Int32) (zc : Int32) (zs : Int32) (zvn : Nat) (zvf : Nat → Int32) {res : Int32 × Int32 × Int32 × Int32 × Int32 × (Nat → Int32) × Int32 × Int32 × Int32 × (Nat → Int32)} (hR : fX5_closeTile oti ofr ofc obt obl otk ojr ojc ojg ojs oy0 oy1 oy2 oy3 oy4 oy5 oy6 wmf zr zc zs zvf = some res) : YM l D cy yX5_closeTile hX5_closeTile 3 0 0 [.ref o, .ref w, .ref z] [[(o, .inr (7, [.ref oj, .ref oy, .int osk, .int oti, .int ofr, .int ofc, .int obt, .int obl, .int obe, .int ose, .int otk]))], [(oj, .inr (3, [.ref oja, .ref ojb, .int ojr, .int ojk, .int ojc, .int ojg, .int ojs]))], [(oy, .inr (4, [.int oy0, .int oy1, .int oy2, .int oy3, .int oy4, .int oy5, .int oy6, .int oy7, .int oy8, .int oy9]))], [(w, .inr (2, [.ref wu, .ref wm, .int wb, .int wk]))], [(wm, .inr (6, [.ref wmn]))], [(wmn, .inl (cy 1, 81, .inl wmf))], [(z, .inr (5, [.ref zv, .int zr, .int zc, .int zs]))], [(zv, .inr (6, [.ref zvn]))], [(zvn, .inl (cy 1, 81, .inl zvf))]] (fun v u => v = none ∧ u = [[(o, .inr (7, [.ref oj, .ref oy, .int osk, .int res.1, .int res.2.1, .int res.2.2.1, .int res.2.2.2.1, .int obl, .int obe, .int ose, .int res.2.2.2.2.1]))], [(oj, .inr (3, [.ref oja, .ref ojb, .int ojr, .int ojk, .int ojc, .int ojg, .int ojs]))], [(oy, .inr (4, [.int oy0, .int oy1, .int oy2, .int oy3, .int oy4, .int oy5, .int oy6, .int oy7, .int oy8, .int oy9]))], [(w, .inr (2, [.ref wu, .ref wm, .int wb, .int wk]))], [(wm, .inr (6, [.ref wmn]))], [(wmn, .inl (cy 1, 81, .inl res.2.2.2.2.2.1))], [(z, .inr (5, [.ref zv, .int res.2.2.2.2.2.2.1, .int res.2.2.2.2.2.2.2.1, .int res.2.2.2.2.2.2.2.2.1]))], [(zv, .inr (6, [.ref zvn]))], [(zvn, .inl (cy 1, 81, .inl res.2.2.2.2.2.2.2.2.2))]]) := by
  unfold fX5_closeTile at hR
  refine YM.ofV (cc := cX5_closeTile) (maxL := 3) (ret := none) (by decide +kernel) rfl (Nat.le_of_ble_eq_true rfl) [(0, .ref o), (1, .ref w), (2, .ref z)] rfl rfl (fun p e s m args below meth c A H0 Q C hnm ret => ?_)
  refine xr_aload_n (n := 1) (j := 0) C dd_X5_closeTile_0.1 rfl rfl ?_
  refine xr_aload_n (n := 2) (j := 1) C dd_X5_closeTile_0.2.1 rfl rfl ?_
  refine xr_aload_n (n := 3) (j := 2) C dd_X5_closeTile_0.2.2.1 rfl rfl ?_
  obtain ⟨x_1, hx_1, hR⟩ := yf_b hR
  refine xr_callV (n := 6) (As := [.ref w, .ref z]) (rest := []) C (kX5_drain l D cy (o := o) (oj := oj) (oy := oy) (osk := osk) (oti := oti) (ofr := ofr) (ofc := ofc) (obt := obt) (obl := obl) (obe := obe) (ose := ose) (otk := otk) (oy0 := oy0) (oy1 := oy1) (oy2 := oy2) (oy3 := oy3) (oy4 := oy4) (oy5 := oy5) (oy6 := oy6) (oy7 := oy7) (oy8 := oy8) (oy9 := oy9) (w := w) (wu := wu) (wm := wm) (wb := wb) (wk := wk) (wmn := wmn) (wmf := wmf) (z := z) (zv := zv) (zr := zr) (zc := zc) (zs := zs) (zvn := zvn) (zvf := zvf) hx_1) mX5_drain u_818 u_820 u_23 0 rfl rfl 9 [0, 2, 3, 4, 5, 6, 7, 8] [1] rfl (by decide +kernel) rfl rfl rfl rfl (Nat.le_of_ble_eq_true rfl) (Nat.le_of_ble_eq_true rfl) (Nat.le_of_ble_eq_true rfl) (Nat.le_of_ble_eq_true rfl) (Nat.le_of_ble_eq_true rfl) dd_X5_closeTile_0.2.2.2.1 rfl (fun v_2 u_3 hp_4 => ?_)
  obtain ⟨rfl, rfl⟩ := hp_4
  refine xr_perm C 9 [0, 8, 1, 2, 3, 4, 5, 6, 7] [] [[(o, .inr (7, [.ref oj, .ref oy, .int osk, .int oti, .int ofr, .int ofc, .int obt, .int obl, .int obe, .int ose, .int otk]))], [(oj, .inr (3, [.ref oja, .ref ojb, .int ojr, .int ojk, .int ojc, .int ojg, .int ojs]))], [(oy, .inr (4, [.int oy0, .int oy1, .int oy2, .int oy3, .int oy4, .int oy5, .int oy6, .int oy7, .int oy8, .int oy9]))], [(w, .inr (2, [.ref wu, .ref wm, .int wb, .int wk]))], [(wm, .inr (6, [.ref wmn]))], [(wmn, .inl (cy 1, 81, .inl wmf))], [(z, .inr (5, [.ref zv, .int zr, .int zc, .int zs]))], [(zv, .inr (6, [.ref zvn]))], [(zvn, .inl (cy 1, 81, .inl x_1))]] rfl (by decide +kernel) rfl ?_
  refine xr_aload_n (n := 7) (j := 0) C dd_X5_closeTile_0.2.2.2.2.1 rfl rfl ?_
  refine xr_dup (n := 8) C dd_X5_closeTile_0.2.2.2.2.2.1 rfl rfl ?_
  refine xr_get (n := 11) C 0 rfl rfl 10 (by decide) in_X5 u_262 rfl (v := .int otk) rfl dd_X5_closeTile_0.2.2.2.2.2.2.1 rfl ?_
  refine xr_aload_n (n := 12) (j := 0) C dd_X5_closeTile_0.2.2.2.2.2.2.2.1 rfl rfl ?_
  obtain ⟨x_5, hx_5, hR⟩ := yf_b hR
  refine xr_callVp (n := 15) (As := []) (rest := [.int otk, .ref o]) C (kX5_tileRows l D cy (o := o) (oj := oj) (oy := oy) (osk := osk) (oti := oti) (ofr := ofr) (ofc := ofc) (obt := obt) (obl := obl) (obe := obe) (ose := ose) (otk := otk) (oy0 := oy0) (oy1 := oy1) (oy2 := oy2) (oy3 := oy3) (oy4 := oy4) (oy5 := oy5) (oy6 := oy6) (oy7 := oy7) (oy8 := oy8) (oy9 := oy9) hx_5) mX5_tileRows u_433 u_435 u_10 0 rfl rfl 9 [0, 2] [1, 3, 4, 5, 6, 7, 8] rfl (by decide +kernel) rfl rfl rfl rfl (Nat.le_of_ble_eq_true rfl) (Nat.le_of_ble_eq_true rfl) (Nat.le_of_ble_eq_true rfl) (Nat.le_of_ble_eq_true rfl) (Nat.le_of_ble_eq_true rfl) dd_X5_closeTile_0.2.2.2.2.2.2.2.2.1 rfl (fun _ _ hp => hp.2) (fun v_6 hp_8 => ?_)
  obtain ⟨rfl, -⟩ := hp_8
  refine xr_st (st' := [.int x_5, .int otk, .ref o]) rfl ?_
  refine xr_aload_n (n := 16) (j := 0) C dd_X5_closeTile_0.2.2.2.2.2.2.2.2.2.1 rfl rfl ?_
  obtain ⟨x_9, hx_9, hR⟩ := yf_b hR
  refine xr_callVp (n := 19) (As := []) (rest := [.int x_5, .int otk, .ref o]) C (kX5_tileColumns l D cy (o := o) (oj := oj) (oy := oy) (osk := osk) (oti := oti) (ofr := ofr) (ofc := ofc) (obt := obt) (obl := obl) (obe := obe) (ose := ose) (otk := otk) (oy0 := oy0) (oy1 := oy1) (oy2 := oy2) (oy3 := oy3) (oy4 := oy4) (oy5 := oy5) (oy6 := oy6) (oy7 := oy7) (oy8 := oy8) (oy9 := oy9) hx_9) mX5_tileColumns u_440 u_442 u_11 0 rfl rfl 9 [0, 2] [1, 3, 4, 5, 6, 7, 8] rfl (by decide +kernel) rfl rfl rfl rfl (Nat.le_of_ble_eq_true rfl) (Nat.le_of_ble_eq_true rfl) (Nat.le_of_ble_eq_true rfl) (Nat.le_of_ble_eq_true rfl) (Nat.le_of_ble_eq_true rfl) dd_X5_closeTile_0.2.2.2.2.2.2.2.2.2.2.1 rfl (fun _ _ hp => hp.2) (fun v_10 hp_12 => ?_)
  obtain ⟨rfl, -⟩ := hp_12
  refine xr_st (st' := [.int x_9, .int x_5, .int otk, .ref o]) rfl ?_
  refine xr_imul (n := 20) C dd_X5_closeTile_0.2.2.2.2.2.2.2.2.2.2.2.1 rfl ?_
  refine xr_aload_n (n := 21) (j := 0) C dd_X5_closeTile_0.2.2.2.2.2.2.2.2.2.2.2.2.1 rfl rfl ?_
  refine xr_get (n := 24) C 0 rfl rfl 1 (by decide) in_X5 u_249 rfl (v := .ref oy) rfl dd_X5_closeTile_0.2.2.2.2.2.2.2.2.2.2.2.2.2.1 rfl ?_
  refine xr_getN (n := 27) C 2 rfl rfl 2 (by decide) in_X2 RX6 (List.mem_of_getElem? (i := 29) rfl) rfl (v := .int oy2) rfl dd_X5_closeTile_0.2.2.2.2.2.2.2.2.2.2.2.2.2.2.1 rfl ?_
  refine xr_imul (n := 28) C dd_X5_closeTile_0.2.2.2.2.2.2.2.2.2.2.2.2.2.2.2.1 rfl ?_
  refine xr_iadd (n := 29) C dd_X5_closeTile_1.1 rfl ?_
  refine xr_put (n := 32) C 0 rfl rfl 10 (by decide) in_X5 tyX5 tyX5_ok nmX5 u_262 rfl rfl rfl rfl (Nat.le_of_ble_eq_true rfl) [[(o, .inr (7, [.ref oj, .ref oy, .int osk, .int oti, .int ofr, .int ofc, .int obt, .int obl, .int obe, .int ose, .int (otk + ((x_5 * x_9) * oy2))]))], [(oj, .inr (3, [.ref oja, .ref ojb, .int ojr, .int ojk, .int ojc, .int ojg, .int ojs]))], [(oy, .inr (4, [.int oy0, .int oy1, .int oy2, .int oy3, .int oy4, .int oy5, .int oy6, .int oy7, .int oy8, .int oy9]))], [(w, .inr (2, [.ref wu, .ref wm, .int wb, .int wk]))], [(wm, .inr (6, [.ref wmn]))], [(wmn, .inl (cy 1, 81, .inl wmf))], [(z, .inr (5, [.ref zv, .int zr, .int zc, .int zs]))], [(zv, .inr (6, [.ref zvn]))], [(zvn, .inl (cy 1, 81, .inl x_1))]] rfl rfl dd_X5_closeTile_1.2.1 ?_
  refine xr_aload_n (n := 33) (j := 0) C dd_X5_closeTile_1.2.2.1 rfl rfl ?_
  refine xr_dup (n := 34) C dd_X5_closeTile_1.2.2.2.1 rfl rfl ?_
  refine xr_get (n := 37) C 0 rfl rfl 3 (by decide) in_X5 u_251 rfl (v := .int oti) rfl dd_X5_closeTile_1.2.2.2.2.1 rfl ?_
  refine xr_iconst (n := 38) (v := 1) C dd_X5_closeTile_1.2.2.2.2.2.1 rfl rfl ?_
  refine xr_iadd (n := 39) C dd_X5_closeTile_1.2.2.2.2.2.2.1 rfl ?_
  refine xr_put (n := 42) C 0 rfl rfl 3 (by decide) in_X5 tyX5 tyX5_ok nmX5 u_251 rfl rfl rfl rfl (Nat.le_of_ble_eq_true rfl) [[(o, .inr (7, [.ref oj, .ref oy, .int osk, .int (oti + 1), .int ofr, .int ofc, .int obt, .int obl, .int obe, .int ose, .int (otk + ((x_5 * x_9) * oy2))]))], [(oj, .inr (3, [.ref oja, .ref ojb, .int ojr, .int ojk, .int ojc, .int ojg, .int ojs]))], [(oy, .inr (4, [.int oy0, .int oy1, .int oy2, .int oy3, .int oy4, .int oy5, .int oy6, .int oy7, .int oy8, .int oy9]))], [(w, .inr (2, [.ref wu, .ref wm, .int wb, .int wk]))], [(wm, .inr (6, [.ref wmn]))], [(wmn, .inl (cy 1, 81, .inl wmf))], [(z, .inr (5, [.ref zv, .int zr, .int zc, .int zs]))], [(zv, .inr (6, [.ref zvn]))], [(zvn, .inl (cy 1, 81, .inl x_1))]] rfl rfl dd_X5_closeTile_1.2.2.2.2.2.2.2.1 ?_
  refine xr_aload_n (n := 43) (j := 0) C dd_X5_closeTile_1.2.2.2.2.2.2.2.2.1 rfl rfl ?_
  refine xr_dup (n := 44) C dd_X5_closeTile_1.2.2.2.2.2.2.2.2.2.1 rfl rfl ?_
  refine xr_get (n := 47) C 0 rfl rfl 5 (by decide) in_X5 u_254 rfl (v := .int ofc) rfl dd_X5_closeTile_1.2.2.2.2.2.2.2.2.2.2.1 rfl ?_
  refine xr_aload_n (n := 48) (j := 0) C dd_X5_closeTile_1.2.2.2.2.2.2.2.2.2.2.2.1 rfl rfl ?_
  refine xr_get (n := 51) C 0 rfl rfl 1 (by decide) in_X5 u_249 rfl (v := .ref oy) rfl dd_X5_closeTile_1.2.2.2.2.2.2.2.2.2.2.2.2.1 rfl ?_
  refine xr_getN (n := 54) C 2 rfl rfl 6 (by decide) in_X2 RX6 (List.mem_of_getElem? (i := 36) rfl) rfl (v := .int oy6) rfl dd_X5_closeTile_1.2.2.2.2.2.2.2.2.2.2.2.2.2.1 rfl ?_
  refine xr_iadd (n := 55) C dd_X5_closeTile_1.2.2.2.2.2.2.2.2.2.2.2.2.2.2.1 rfl ?_
  refine xr_put (n := 58) C 0 rfl rfl 5 (by decide) in_X5 tyX5 tyX5_ok nmX5 u_254 rfl rfl rfl rfl (Nat.le_of_ble_eq_true rfl) [[(o, .inr (7, [.ref oj, .ref oy, .int osk, .int (oti + 1), .int ofr, .int (ofc + oy6), .int obt, .int obl, .int obe, .int ose, .int (otk + ((x_5 * x_9) * oy2))]))], [(oj, .inr (3, [.ref oja, .ref ojb, .int ojr, .int ojk, .int ojc, .int ojg, .int ojs]))], [(oy, .inr (4, [.int oy0, .int oy1, .int oy2, .int oy3, .int oy4, .int oy5, .int oy6, .int oy7, .int oy8, .int oy9]))], [(w, .inr (2, [.ref wu, .ref wm, .int wb, .int wk]))], [(wm, .inr (6, [.ref wmn]))], [(wmn, .inl (cy 1, 81, .inl wmf))], [(z, .inr (5, [.ref zv, .int zr, .int zc, .int zs]))], [(zv, .inr (6, [.ref zvn]))], [(zvn, .inl (cy 1, 81, .inl x_1))]] rfl rfl dd_X5_closeTile_1.2.2.2.2.2.2.2.2.2.2.2.2.2.2.2.1 ?_
  refine xr_aload_n (n := 59) (j := 0) C dd_X5_closeTile_2.1 rfl rfl ?_
  refine xr_get (n := 62) C 0 rfl rfl 5 (by decide) in_X5 u_254 rfl (v := .int (ofc + oy6)) rfl dd_X5_closeTile_2.2.1 rfl ?_
  refine xr_aload_n (n := 63) (j := 0) C dd_X5_closeTile_2.2.2.1 rfl rfl ?_
  refine xr_get (n := 66) C 0 rfl rfl 1 (by decide) in_X5 u_249 rfl (v := .ref oy) rfl dd_X5_closeTile_2.2.2.2.1 rfl ?_
  refine xr_getN (n := 69) C 2 rfl rfl 1 (by decide) in_X2 RX6 (List.mem_of_getElem? (i := 28) rfl) rfl (v := .int oy1) rfl dd_X5_closeTile_2.2.2.2.2.1 rfl ?_
  obtain ⟨r_14, hE_14, hR⟩ := yf_b hR
  have J_14 : X p l e (yR 3 0 0) s m args below meth c D A H0 3 Q [[(o, .inr (7, [.ref oj, .ref oy, .int osk, .int (oti + 1), .int r_14.1, .int r_14.2, .int obt, .int obl, .int obe, .int ose, .int (otk + ((x_5 * x_9) * oy2))]))], [(oj, .inr (3, [.ref oja, .ref ojb, .int ojr, .int ojk, .int ojc, .int ojg, .int ojs]))], [(oy, .inr (4, [.int oy0, .int oy1, .int oy2, .int oy3, .int oy4, .int oy5, .int oy6, .int oy7, .int oy8, .int oy9]))], [(w, .inr (2, [.ref wu, .ref wm, .int wb, .int wk]))], [(wm, .inr (6, [.ref wmn]))], [(wmn, .inl (cy 1, 81, .inl wmf))], [(z, .inr (5, [.ref zv, .int zr, .int zc, .int zs]))], [(zv, .inr (6, [.ref zvn]))], [(zvn, .inl (cy 1, 81, .inl x_1))]] 0 0 [(0, .ref o), (1, .ref w), (2, .ref z)] 93 [] := by
    refine xr_aload_n (n := 94) (j := 0) C dd_X5_closeTile_3.2.1 rfl rfl ?_
    obtain ⟨x_15, hx_15, hR⟩ := yf_b hR
    refine xr_callVp (n := 97) (As := []) (rest := []) C (kX5_runs l D cy (o := o) (oj := oj) (oy := oy) (osk := osk) (oti := oti + 1) (ofr := r_14.1) (ofc := r_14.2) (obt := obt) (obl := obl) (obe := obe) (ose := ose) (otk := otk + ((x_5 * x_9) * oy2)) hx_15) mX5_runs u_429 u_430 u_431 0 rfl rfl 9 [0] [1, 2, 3, 4, 5, 6, 7, 8] rfl (by decide +kernel) rfl rfl rfl rfl (Nat.le_of_ble_eq_true rfl) (Nat.le_of_ble_eq_true rfl) (Nat.le_of_ble_eq_true rfl) (Nat.le_of_ble_eq_true rfl) (Nat.le_of_ble_eq_true rfl) dd_X5_closeTile_3.2.2.1 rfl (fun _ _ hp => hp.2) (fun v_16 hp_18 => ?_)
    obtain ⟨rfl, -⟩ := hp_18
    refine xr_st (st' := [.int x_15]) rfl ?_
    refine xr_if_eq (tgt := 108) (n := 100) C dd_X5_closeTile_3.2.2.2.1 rfl rfl (fun c_19 => ?_) (fun c_19 => ?_)
    · replace hR := yf_t c_19 hR
      refine xr_aload_n (n := 109) (j := 2) C dd_X5_closeTile_3.2.2.2.2.2.2.2.2.1 rfl rfl ?_
      refine xr_aload_n (n := 110) (j := 0) C dd_X5_closeTile_3.2.2.2.2.2.2.2.2.2.1 rfl rfl ?_
      refine xr_get (n := 113) C 0 rfl rfl 0 (by decide) in_X5 u_248 rfl (v := .ref oj) rfl dd_X5_closeTile_3.2.2.2.2.2.2.2.2.2.2.1 rfl ?_
      obtain ⟨x_20, hx_20, hR⟩ := yf_b hR
      refine xr_callV (n := 116) (As := [.ref oj]) (rest := []) C (kX3_open l D cy (z := z) (zv := zv) (zr := zr) (zc := zc) (zs := zs) (j := oj) (ja := oja) (jb := ojb) (jr := ojr) (jk := ojk) (jc := ojc) (jg := ojg) (js := ojs) hx_20) mX3_open u_823 u_824 u_825 6 rfl rfl 9 [6, 1] [0, 2, 3, 4, 5, 7, 8] rfl (by decide +kernel) rfl rfl rfl rfl (Nat.le_of_ble_eq_true rfl) (Nat.le_of_ble_eq_true rfl) (Nat.le_of_ble_eq_true rfl) (Nat.le_of_ble_eq_true rfl) (Nat.le_of_ble_eq_true rfl) dd_X5_closeTile_3.2.2.2.2.2.2.2.2.2.2.2.1 rfl (fun v_21 u_22 hp_23 => ?_)
      obtain ⟨rfl, rfl⟩ := hp_23
      refine xr_perm C 9 [2, 1, 3, 4, 5, 6, 0, 7, 8] [] [[(o, .inr (7, [.ref oj, .ref oy, .int osk, .int (oti + 1), .int r_14.1, .int r_14.2, .int obt, .int obl, .int obe, .int ose, .int (otk + ((x_5 * x_9) * oy2))]))], [(oj, .inr (3, [.ref oja, .ref ojb, .int ojr, .int ojk, .int ojc, .int ojg, .int ojs]))], [(oy, .inr (4, [.int oy0, .int oy1, .int oy2, .int oy3, .int oy4, .int oy5, .int oy6, .int oy7, .int oy8, .int oy9]))], [(w, .inr (2, [.ref wu, .ref wm, .int wb, .int wk]))], [(wm, .inr (6, [.ref wmn]))], [(wmn, .inl (cy 1, 81, .inl wmf))], [(z, .inr (5, [.ref zv, .int x_20.1, .int x_20.2.1, .int x_20.2.2]))], [(zv, .inr (6, [.ref zvn]))], [(zvn, .inl (cy 1, 81, .inl x_1))]] rfl (by decide +kernel) rfl ?_
      obtain rfl := Option.some.inj hR
      exact ret ⟨rfl, rfl⟩ (Nat.le_of_ble_eq_true rfl) (Nat.le_of_ble_eq_true rfl) dd_X5_closeTile_3.2.2.2.2.2.2.2.2.2.2.2.2.1
    · replace hR := yf_f c_19 hR
      refine xr_aload_n (n := 101) (j := 0) C dd_X5_closeTile_3.2.2.2.2.1 rfl rfl ?_
      refine xr_aload_n (n := 102) (j := 1) C dd_X5_closeTile_3.2.2.2.2.2.1 rfl rfl ?_
      obtain ⟨x_24, hx_24, hR⟩ := yf_b hR
      refine xr_callV (n := 105) (As := [.ref w]) (rest := []) C (kX5_openTile l D cy (o := o) (oj := oj) (oy := oy) (osk := osk) (oti := oti + 1) (ofr := r_14.1) (ofc := r_14.2) (obt := obt) (obl := obl) (obe := obe) (ose := ose) (otk := otk + ((x_5 * x_9) * oy2)) (oja := oja) (ojb := ojb) (ojr := ojr) (ojk := ojk) (ojc := ojc) (ojg := ojg) (ojs := ojs) (w := w) (wu := wu) (wm := wm) (wb := wb) (wk := wk) (wmn := wmn) (wmf := wmf) hx_24) mX5_openTile u_777 u_779 u_20 0 rfl rfl 9 [0, 1, 3, 4, 5] [2, 6, 7, 8] rfl (by decide +kernel) rfl rfl rfl rfl (Nat.le_of_ble_eq_true rfl) (Nat.le_of_ble_eq_true rfl) (Nat.le_of_ble_eq_true rfl) (Nat.le_of_ble_eq_true rfl) (Nat.le_of_ble_eq_true rfl) dd_X5_closeTile_3.2.2.2.2.2.2.1 rfl (fun v_25 u_26 hp_27 => ?_)
      obtain ⟨rfl, rfl⟩ := hp_27
      refine xr_perm C 9 [0, 1, 5, 2, 3, 4, 6, 7, 8] [] [[(o, .inr (7, [.ref oj, .ref oy, .int osk, .int (oti + 1), .int r_14.1, .int r_14.2, .int x_24.1, .int obl, .int obe, .int ose, .int (otk + ((x_5 * x_9) * oy2))]))], [(oj, .inr (3, [.ref oja, .ref ojb, .int ojr, .int ojk, .int ojc, .int ojg, .int ojs]))], [(oy, .inr (4, [.int oy0, .int oy1, .int oy2, .int oy3, .int oy4, .int oy5, .int oy6, .int oy7, .int oy8, .int oy9]))], [(w, .inr (2, [.ref wu, .ref wm, .int wb, .int wk]))], [(wm, .inr (6, [.ref wmn]))], [(wmn, .inl (cy 1, 81, .inl x_24.2))], [(z, .inr (5, [.ref zv, .int zr, .int zc, .int zs]))], [(zv, .inr (6, [.ref zvn]))], [(zvn, .inl (cy 1, 81, .inl x_1))]] rfl (by decide +kernel) rfl ?_
      refine xr_goto (tgt := 116) C dd_X5_closeTile_3.2.2.2.2.2.2.2.1 rfl ?_
      obtain rfl := Option.some.inj hR
      exact ret ⟨rfl, rfl⟩ (Nat.le_of_ble_eq_true rfl) (Nat.le_of_ble_eq_true rfl) dd_X5_closeTile_3.2.2.2.2.2.2.2.2.2.2.2.2.1
  refine xr_icmp_lt (tgt := 93) (n := 72) C dd_X5_closeTile_2.2.2.2.2.2.1 rfl rfl (fun c_28 => ?_) (fun c_28 => ?_)
  · replace hE_14 := yf_t c_28 hE_14
    have e_29 := Option.some.inj hE_14
    subst e_29
    exact J_14
  · replace hE_14 := yf_f c_28 hE_14
    refine xr_aload_n (n := 73) (j := 0) C dd_X5_closeTile_2.2.2.2.2.2.2.1 rfl rfl ?_
    refine xr_iconst (n := 74) (v := 0) C dd_X5_closeTile_2.2.2.2.2.2.2.2.1 rfl rfl ?_
    refine xr_put (n := 77) C 0 rfl rfl 5 (by decide) in_X5 tyX5 tyX5_ok nmX5 u_254 rfl rfl rfl rfl (Nat.le_of_ble_eq_true rfl) [[(o, .inr (7, [.ref oj, .ref oy, .int osk, .int (oti + 1), .int ofr, .int 0, .int obt, .int obl, .int obe, .int ose, .int (otk + ((x_5 * x_9) * oy2))]))], [(oj, .inr (3, [.ref oja, .ref ojb, .int ojr, .int ojk, .int ojc, .int ojg, .int ojs]))], [(oy, .inr (4, [.int oy0, .int oy1, .int oy2, .int oy3, .int oy4, .int oy5, .int oy6, .int oy7, .int oy8, .int oy9]))], [(w, .inr (2, [.ref wu, .ref wm, .int wb, .int wk]))], [(wm, .inr (6, [.ref wmn]))], [(wmn, .inl (cy 1, 81, .inl wmf))], [(z, .inr (5, [.ref zv, .int zr, .int zc, .int zs]))], [(zv, .inr (6, [.ref zvn]))], [(zvn, .inl (cy 1, 81, .inl x_1))]] rfl rfl dd_X5_closeTile_2.2.2.2.2.2.2.2.2.1 ?_
    refine xr_aload_n (n := 78) (j := 0) C dd_X5_closeTile_2.2.2.2.2.2.2.2.2.2.1 rfl rfl ?_
    refine xr_dup (n := 79) C dd_X5_closeTile_2.2.2.2.2.2.2.2.2.2.2.1 rfl rfl ?_
    refine xr_get (n := 82) C 0 rfl rfl 4 (by decide) in_X5 u_253 rfl (v := .int ofr) rfl dd_X5_closeTile_2.2.2.2.2.2.2.2.2.2.2.2.1 rfl ?_
    refine xr_aload_n (n := 83) (j := 0) C dd_X5_closeTile_2.2.2.2.2.2.2.2.2.2.2.2.2.1 rfl rfl ?_
    refine xr_get (n := 86) C 0 rfl rfl 1 (by decide) in_X5 u_249 rfl (v := .ref oy) rfl dd_X5_closeTile_2.2.2.2.2.2.2.2.2.2.2.2.2.2.1 rfl ?_
    refine xr_getN (n := 89) C 2 rfl rfl 5 (by decide) in_X2 RX6 (List.mem_of_getElem? (i := 35) rfl) rfl (v := .int oy5) rfl dd_X5_closeTile_2.2.2.2.2.2.2.2.2.2.2.2.2.2.2.1 rfl ?_
    refine xr_iadd (n := 90) C dd_X5_closeTile_2.2.2.2.2.2.2.2.2.2.2.2.2.2.2.2.1 rfl ?_
    refine xr_put (n := 93) C 0 rfl rfl 4 (by decide) in_X5 tyX5 tyX5_ok nmX5 u_253 rfl rfl rfl rfl (Nat.le_of_ble_eq_true rfl) [[(o, .inr (7, [.ref oj, .ref oy, .int osk, .int (oti + 1), .int (ofr + oy5), .int 0, .int obt, .int obl, .int obe, .int ose, .int (otk + ((x_5 * x_9) * oy2))]))], [(oj, .inr (3, [.ref oja, .ref ojb, .int ojr, .int ojk, .int ojc, .int ojg, .int ojs]))], [(oy, .inr (4, [.int oy0, .int oy1, .int oy2, .int oy3, .int oy4, .int oy5, .int oy6, .int oy7, .int oy8, .int oy9]))], [(w, .inr (2, [.ref wu, .ref wm, .int wb, .int wk]))], [(wm, .inr (6, [.ref wmn]))], [(wmn, .inl (cy 1, 81, .inl wmf))], [(z, .inr (5, [.ref zv, .int zr, .int zc, .int zs]))], [(zv, .inr (6, [.ref zvn]))], [(zvn, .inl (cy 1, 81, .inl x_1))]] rfl rfl dd_X5_closeTile_3.1 ?_
    have e_30 := Option.some.inj hE_14
    subst e_30
    exact J_14
theorem dd_X5_pulse_0 : dk_R cX5_pulse [(0, .iconst 0, 1), (1, .istore_n 3, 1), (2, .iload_n 3, 1), (3, .aload_n 0, 1), (4, .invokevirtual 104, 3), (7, .if_icmp .ge 35, 3), (10, .iconst 0, 1), (11, .istore 4, 2), (13, .iload 4, 2), (15, .aload_n 0, 1), (16, .invokevirtual 107, 3), (19, .if_icmp .ge 17, 3), (22, .aload_n 0, 1), (23, .aload_n 1, 1), (24, .iload_n 3, 1), (25, .iload 4, 2)] := dk_use _ _ (by decide +kernel)
theorem dd_X5_pulse_1 : dk_R cX5_pulse [(27, .invokevirtual 113, 3), (30, .iinc 4 1, 3), (33, .goto (-20), 3), (36, .iinc 3 1, 3), (39, .goto (-37), 3), (42, .aload_n 0, 1), (43, .dup, 1), (44, .getfield 38, 3), (47, .iconst 1, 1), (48, .iadd, 1), (49, .putfield 38, 3), (52, .aload_n 0, 1), (53, .dup, 1), (54, .getfield 41, 3), (57, .iconst 1, 1), (58, .isub, 1)] := dk_use _ _ (by decide +kernel)
theorem dd_X5_pulse_2 : dk_R cX5_pulse [(59, .putfield 41, 3), (62, .aload_n 0, 1), (63, .dup, 1), (64, .getfield 44, 3), (67, .iconst 1, 1), (68, .iadd, 1), (69, .putfield 44, 3), (72, .aload_n 0, 1), (73, .getfield 38, 3), (76, .aload_n 0, 1), (77, .invokevirtual 117, 3), (80, .if_icmp .lt 9, 3), (83, .aload_n 0, 1), (84, .aload_n 1, 1), (85, .aload_n 2, 1), (86, .invokevirtual 120, 3)] := dk_use _ _ (by decide +kernel)
theorem dd_X5_pulse_3 : dk_R cX5_pulse [(89, .return_, 1)] := dk_use _ _ (by decide +kernel)
def fX5_pulse (osk : Int32) (oti : Int32) (ofr : Int32) (ofc : Int32) (obt : Int32) (obl : Int32) (obe : Int32) (otk : Int32) (ojr : Int32) (ojc : Int32) (ojg : Int32) (ojs : Int32) (ojaf : Nat → Int32) (ojbf : Nat → Int32) (oy0 : Int32) (oy1 : Int32) (oy2 : Int32) (oy3 : Int32) (oy4 : Int32) (oy5 : Int32) (oy6 : Int32) (wb : Int32) (wuf : Nat → Int32) (wmf : Nat → Int32) (zr : Int32) (zc : Int32) (zs : Int32) (zvf : Nat → Int32) : Option (Int32 × Int32 × Int32 × Int32 × Int32 × Int32 × Int32 × (Nat → Int32) × (Nat → Int32) × Int32 × Int32 × Int32 × (Nat → Int32)) := ((wl (S := Int32 × (Nat → Int32) × (Nat → Int32)) (B := Int32 × (Nat → Int32) × (Nat → Int32)) (fun s_1 => ((fX5_tileRows ofr oy0 oy5).bind fun x_11 => (if x_11 ≤ s_1.1 then some (.inr (s_1.1, s_1.2.1, s_1.2.2)) else ((wl (S := Int32 × (Nat → Int32) × (Nat → Int32)) (B := Int32 × (Nat → Int32) × (Nat → Int32)) (fun s_17 => ((fX5_tileColumns ofc oy1 oy6).bind fun x_18 => (if x_18 ≤ s_17.1 then some (.inr (s_17.1, s_17.2.1, s_17.2.2)) else ((fX5_feed osk ofr ofc obt ojr ojc ojg ojaf ojbf oy2 oy3 oy4 wb s_17.2.1 s_17.2.2 s_1.1 s_17.1).bind fun x_24 => some (.inl (s_17.1 + 1, x_24.1, x_24.2)))))) yFuel (0, s_1.2.1, s_1.2.2)).bind fun b_17 => some (.inl (s_1.1 + 1, b_17.2.1, b_17.2.2)))))) yFuel (0, wuf, wmf)).bind fun b_1 => ((fX5_beatsOfTile ofr ofc oy0 oy1 oy2 oy5 oy6).bind fun x_2 => (if (obt + 1) < x_2 then some (oti, ofr, ofc, obt + 1, obl - 1, obe + 1, otk, b_1.2.1, b_1.2.2, zr, zc, zs, zvf) else ((fX5_closeTile oti ofr ofc (obt + 1) (obl - 1) otk ojr ojc ojg ojs oy0 oy1 oy2 oy3 oy4 oy5 oy6 b_1.2.2 zr zc zs zvf).bind fun x_7 => some (x_7.1, x_7.2.1, x_7.2.2.1, x_7.2.2.2.1, obl - 1, obe + 1, x_7.2.2.2.2.1, b_1.2.1, x_7.2.2.2.2.2.1, x_7.2.2.2.2.2.2.1, x_7.2.2.2.2.2.2.2.1, x_7.2.2.2.2.2.2.2.2.1, x_7.2.2.2.2.2.2.2.2.2)))))
abbrev hX5_pulse : Cond := .code yX5_pulse cX5_pulse 5 none
theorem mX5_pulse : yM yX5_pulse hX5_pulse 2 := ⟨u_799, u_62, by decide +kernel, by decide +kernel, by decide +kernel⟩
set_option maxHeartbeats 4000000 in
set_option maxRecDepth 100000 in
theorem kX5_pulse (l : Launch) (D : va_G) (cy : Nat → ClassId) (o : Nat) (oj : Nat) (oy : Nat) (osk : Int32) (oti : Int32) (ofr : Int32) (ofc : Int32) (obt : Int32) (obl : Int32) (obe : Int32) (ose : Int32) (otk : Int32) (oja : Nat) (ojb : Nat) (ojr : Int32) (ojk : Int32) (ojc : Int32) (ojg : Int32) (ojs : Int32) (ojan : Nat) (ojaf : Nat → Int32) (ojbn : Nat) (ojbf : Nat → Int32) (oy0 : Int32) (oy1 : Int32) (oy2 : Int32) (oy3 : Int32) (oy4 : Int32) (oy5 : Int32) (oy6 : Int32) (oy7 : Int32) (oy8 : Int32) (oy9 : Int32) (w : Nat) (wu : Nat) (wm : Nat) (wb : Int32) (wk : Int32) (wun : Nat) (wuf : Nat → Int32) (wmn : Nat) (wmf : Nat → Int32) (z : Nat) (zv : Nat) (zr : Int32) (zc : Int32) (zs : Int32) (zvn : Nat) (zvf : Nat → Int32) {res : Int32 × Int32 × Int32 × Int32 × Int32 × Int32 × Int32 × (Nat → Int32) × (Nat → Int32) × Int32 × Int32 × Int32 × (Nat → Int32)} (hR : fX5_pulse osk oti ofr ofc obt obl obe otk ojr ojc ojg ojs ojaf ojbf oy0 oy1 oy2 oy3 oy4 oy5 oy6 wb wuf wmf zr zc zs zvf = some res) : YM l D cy yX5_pulse hX5_pulse 5 0 0 [.ref o, .ref w, .ref z] [[(o, .inr (7, [.ref oj, .ref oy, .int osk, .int oti, .int ofr, .int ofc, .int obt, .int obl, .int obe, .int ose, .int otk]))], [(oj, .inr (3, [.ref oja, .ref ojb, .int ojr, .int ojk, .int ojc, .int ojg, .int ojs]))], [(oja, .inr (6, [.ref ojan]))], [(ojan, .inl (cy 1, 81, .inl ojaf))], [(ojb, .inr (6, [.ref ojbn]))], [(ojbn, .inl (cy 1, 81, .inl ojbf))], [(oy, .inr (4, [.int oy0, .int oy1, .int oy2, .int oy3, .int oy4, .int oy5, .int oy6, .int oy7, .int oy8, .int oy9]))], [(w, .inr (2, [.ref wu, .ref wm, .int wb, .int wk]))], [(wu, .inr (6, [.ref wun]))], [(wun, .inl (cy 1, 81, .inl wuf))], [(wm, .inr (6, [.ref wmn]))], [(wmn, .inl (cy 1, 81, .inl wmf))], [(z, .inr (5, [.ref zv, .int zr, .int zc, .int zs]))], [(zv, .inr (6, [.ref zvn]))], [(zvn, .inl (cy 1, 81, .inl zvf))]] (fun v u => v = none ∧ u = [[(o, .inr (7, [.ref oj, .ref oy, .int osk, .int res.1, .int res.2.1, .int res.2.2.1, .int res.2.2.2.1, .int res.2.2.2.2.1, .int res.2.2.2.2.2.1, .int ose, .int res.2.2.2.2.2.2.1]))], [(oj, .inr (3, [.ref oja, .ref ojb, .int ojr, .int ojk, .int ojc, .int ojg, .int ojs]))], [(oja, .inr (6, [.ref ojan]))], [(ojan, .inl (cy 1, 81, .inl ojaf))], [(ojb, .inr (6, [.ref ojbn]))], [(ojbn, .inl (cy 1, 81, .inl ojbf))], [(oy, .inr (4, [.int oy0, .int oy1, .int oy2, .int oy3, .int oy4, .int oy5, .int oy6, .int oy7, .int oy8, .int oy9]))], [(w, .inr (2, [.ref wu, .ref wm, .int wb, .int wk]))], [(wu, .inr (6, [.ref wun]))], [(wun, .inl (cy 1, 81, .inl res.2.2.2.2.2.2.2.1))], [(wm, .inr (6, [.ref wmn]))], [(wmn, .inl (cy 1, 81, .inl res.2.2.2.2.2.2.2.2.1))], [(z, .inr (5, [.ref zv, .int res.2.2.2.2.2.2.2.2.2.1, .int res.2.2.2.2.2.2.2.2.2.2.1, .int res.2.2.2.2.2.2.2.2.2.2.2.1]))], [(zv, .inr (6, [.ref zvn]))], [(zvn, .inl (cy 1, 81, .inl res.2.2.2.2.2.2.2.2.2.2.2.2))]]) := by
  unfold fX5_pulse at hR
  refine YM.ofV (cc := cX5_pulse) (maxL := 5) (ret := none) (by decide +kernel) rfl (Nat.le_of_ble_eq_true rfl) [(0, .ref o), (1, .ref w), (2, .ref z)] rfl rfl (fun p e s m args below meth c A H0 Q C hnm ret => ?_)
  refine xr_iconst (n := 1) (v := 0) C dd_X5_pulse_0.1 rfl rfl ?_
  refine xr_istore_n (n := 2) C [(3, .int 0), (0, .ref o), (1, .ref w), (2, .ref z)] dd_X5_pulse_0.2.1 (by decide) rfl rfl ?_
  refine xr_lv (lv' := [(0, .ref o), (1, .ref w), (2, .ref z), (3, .int 0)]) [1, 2, 3, 0] rfl ?_
  obtain ⟨b_1, hb_1, hR⟩ := yf_b hR
  have K_1 : X p l e (yR 5 0 0) s m args below meth c D A H0 5 Q [[(o, .inr (7, [.ref oj, .ref oy, .int osk, .int oti, .int ofr, .int ofc, .int obt, .int obl, .int obe, .int ose, .int otk]))], [(oj, .inr (3, [.ref oja, .ref ojb, .int ojr, .int ojk, .int ojc, .int ojg, .int ojs]))], [(oja, .inr (6, [.ref ojan]))], [(ojan, .inl (cy 1, 81, .inl ojaf))], [(ojb, .inr (6, [.ref ojbn]))], [(ojbn, .inl (cy 1, 81, .inl ojbf))], [(oy, .inr (4, [.int oy0, .int oy1, .int oy2, .int oy3, .int oy4, .int oy5, .int oy6, .int oy7, .int oy8, .int oy9]))], [(w, .inr (2, [.ref wu, .ref wm, .int wb, .int wk]))], [(wu, .inr (6, [.ref wun]))], [(wun, .inl (cy 1, 81, .inl b_1.2.1))], [(wm, .inr (6, [.ref wmn]))], [(wmn, .inl (cy 1, 81, .inl b_1.2.2))], [(z, .inr (5, [.ref zv, .int zr, .int zc, .int zs]))], [(zv, .inr (6, [.ref zvn]))], [(zvn, .inl (cy 1, 81, .inl zvf))]] 0 0 [(0, .ref o), (1, .ref w), (2, .ref z)] 42 [] := by
    refine xr_aload_n (n := 43) (j := 0) C dd_X5_pulse_1.2.2.2.2.2.1 rfl rfl ?_
    refine xr_dup (n := 44) C dd_X5_pulse_1.2.2.2.2.2.2.1 rfl rfl ?_
    refine xr_get (n := 47) C 0 rfl rfl 6 (by decide) in_X5 u_255 rfl (v := .int obt) rfl dd_X5_pulse_1.2.2.2.2.2.2.2.1 rfl ?_
    refine xr_iconst (n := 48) (v := 1) C dd_X5_pulse_1.2.2.2.2.2.2.2.2.1 rfl rfl ?_
    refine xr_iadd (n := 49) C dd_X5_pulse_1.2.2.2.2.2.2.2.2.2.1 rfl ?_
    refine xr_put (n := 52) C 0 rfl rfl 6 (by decide) in_X5 tyX5 tyX5_ok nmX5 u_255 rfl rfl rfl rfl (Nat.le_of_ble_eq_true rfl) [[(o, .inr (7, [.ref oj, .ref oy, .int osk, .int oti, .int ofr, .int ofc, .int (obt + 1), .int obl, .int obe, .int ose, .int otk]))], [(oj, .inr (3, [.ref oja, .ref ojb, .int ojr, .int ojk, .int ojc, .int ojg, .int ojs]))], [(oja, .inr (6, [.ref ojan]))], [(ojan, .inl (cy 1, 81, .inl ojaf))], [(ojb, .inr (6, [.ref ojbn]))], [(ojbn, .inl (cy 1, 81, .inl ojbf))], [(oy, .inr (4, [.int oy0, .int oy1, .int oy2, .int oy3, .int oy4, .int oy5, .int oy6, .int oy7, .int oy8, .int oy9]))], [(w, .inr (2, [.ref wu, .ref wm, .int wb, .int wk]))], [(wu, .inr (6, [.ref wun]))], [(wun, .inl (cy 1, 81, .inl b_1.2.1))], [(wm, .inr (6, [.ref wmn]))], [(wmn, .inl (cy 1, 81, .inl b_1.2.2))], [(z, .inr (5, [.ref zv, .int zr, .int zc, .int zs]))], [(zv, .inr (6, [.ref zvn]))], [(zvn, .inl (cy 1, 81, .inl zvf))]] rfl rfl dd_X5_pulse_1.2.2.2.2.2.2.2.2.2.2.1 ?_
    refine xr_aload_n (n := 53) (j := 0) C dd_X5_pulse_1.2.2.2.2.2.2.2.2.2.2.2.1 rfl rfl ?_
    refine xr_dup (n := 54) C dd_X5_pulse_1.2.2.2.2.2.2.2.2.2.2.2.2.1 rfl rfl ?_
    refine xr_get (n := 57) C 0 rfl rfl 7 (by decide) in_X5 u_256 rfl (v := .int obl) rfl dd_X5_pulse_1.2.2.2.2.2.2.2.2.2.2.2.2.2.1 rfl ?_
    refine xr_iconst (n := 58) (v := 1) C dd_X5_pulse_1.2.2.2.2.2.2.2.2.2.2.2.2.2.2.1 rfl rfl ?_
    refine xr_isub (n := 59) C dd_X5_pulse_1.2.2.2.2.2.2.2.2.2.2.2.2.2.2.2.1 rfl ?_
    refine xr_put (n := 62) C 0 rfl rfl 7 (by decide) in_X5 tyX5 tyX5_ok nmX5 u_256 rfl rfl rfl rfl (Nat.le_of_ble_eq_true rfl) [[(o, .inr (7, [.ref oj, .ref oy, .int osk, .int oti, .int ofr, .int ofc, .int (obt + 1), .int (obl - 1), .int obe, .int ose, .int otk]))], [(oj, .inr (3, [.ref oja, .ref ojb, .int ojr, .int ojk, .int ojc, .int ojg, .int ojs]))], [(oja, .inr (6, [.ref ojan]))], [(ojan, .inl (cy 1, 81, .inl ojaf))], [(ojb, .inr (6, [.ref ojbn]))], [(ojbn, .inl (cy 1, 81, .inl ojbf))], [(oy, .inr (4, [.int oy0, .int oy1, .int oy2, .int oy3, .int oy4, .int oy5, .int oy6, .int oy7, .int oy8, .int oy9]))], [(w, .inr (2, [.ref wu, .ref wm, .int wb, .int wk]))], [(wu, .inr (6, [.ref wun]))], [(wun, .inl (cy 1, 81, .inl b_1.2.1))], [(wm, .inr (6, [.ref wmn]))], [(wmn, .inl (cy 1, 81, .inl b_1.2.2))], [(z, .inr (5, [.ref zv, .int zr, .int zc, .int zs]))], [(zv, .inr (6, [.ref zvn]))], [(zvn, .inl (cy 1, 81, .inl zvf))]] rfl rfl dd_X5_pulse_2.1 ?_
    refine xr_aload_n (n := 63) (j := 0) C dd_X5_pulse_2.2.1 rfl rfl ?_
    refine xr_dup (n := 64) C dd_X5_pulse_2.2.2.1 rfl rfl ?_
    refine xr_get (n := 67) C 0 rfl rfl 8 (by decide) in_X5 u_258 rfl (v := .int obe) rfl dd_X5_pulse_2.2.2.2.1 rfl ?_
    refine xr_iconst (n := 68) (v := 1) C dd_X5_pulse_2.2.2.2.2.1 rfl rfl ?_
    refine xr_iadd (n := 69) C dd_X5_pulse_2.2.2.2.2.2.1 rfl ?_
    refine xr_put (n := 72) C 0 rfl rfl 8 (by decide) in_X5 tyX5 tyX5_ok nmX5 u_258 rfl rfl rfl rfl (Nat.le_of_ble_eq_true rfl) [[(o, .inr (7, [.ref oj, .ref oy, .int osk, .int oti, .int ofr, .int ofc, .int (obt + 1), .int (obl - 1), .int (obe + 1), .int ose, .int otk]))], [(oj, .inr (3, [.ref oja, .ref ojb, .int ojr, .int ojk, .int ojc, .int ojg, .int ojs]))], [(oja, .inr (6, [.ref ojan]))], [(ojan, .inl (cy 1, 81, .inl ojaf))], [(ojb, .inr (6, [.ref ojbn]))], [(ojbn, .inl (cy 1, 81, .inl ojbf))], [(oy, .inr (4, [.int oy0, .int oy1, .int oy2, .int oy3, .int oy4, .int oy5, .int oy6, .int oy7, .int oy8, .int oy9]))], [(w, .inr (2, [.ref wu, .ref wm, .int wb, .int wk]))], [(wu, .inr (6, [.ref wun]))], [(wun, .inl (cy 1, 81, .inl b_1.2.1))], [(wm, .inr (6, [.ref wmn]))], [(wmn, .inl (cy 1, 81, .inl b_1.2.2))], [(z, .inr (5, [.ref zv, .int zr, .int zc, .int zs]))], [(zv, .inr (6, [.ref zvn]))], [(zvn, .inl (cy 1, 81, .inl zvf))]] rfl rfl dd_X5_pulse_2.2.2.2.2.2.2.1 ?_
    refine xr_aload_n (n := 73) (j := 0) C dd_X5_pulse_2.2.2.2.2.2.2.2.1 rfl rfl ?_
    refine xr_get (n := 76) C 0 rfl rfl 6 (by decide) in_X5 u_255 rfl (v := .int (obt + 1)) rfl dd_X5_pulse_2.2.2.2.2.2.2.2.2.1 rfl ?_
    refine xr_aload_n (n := 77) (j := 0) C dd_X5_pulse_2.2.2.2.2.2.2.2.2.2.1 rfl rfl ?_
    obtain ⟨x_2, hx_2, hR⟩ := yf_b hR
    refine xr_callVp (n := 80) (As := []) (rest := [.int (obt + 1)]) C (kX5_beatsOfTile l D cy (o := o) (oj := oj) (oy := oy) (osk := osk) (oti := oti) (ofr := ofr) (ofc := ofc) (obt := obt + 1) (obl := obl - 1) (obe := obe + 1) (ose := ose) (otk := otk) (oy0 := oy0) (oy1 := oy1) (oy2 := oy2) (oy3 := oy3) (oy4 := oy4) (oy5 := oy5) (oy6 := oy6) (oy7 := oy7) (oy8 := oy8) (oy9 := oy9) hx_2) mX5_beatsOfTile u_451 u_453 u_12 0 rfl rfl 15 [0, 6] [1, 2, 3, 4, 5, 7, 8, 9, 10, 11, 12, 13, 14] rfl (by decide +kernel) rfl rfl rfl rfl (Nat.le_of_ble_eq_true rfl) (Nat.le_of_ble_eq_true rfl) (Nat.le_of_ble_eq_true rfl) (Nat.le_of_ble_eq_true rfl) (Nat.le_of_ble_eq_true rfl) dd_X5_pulse_2.2.2.2.2.2.2.2.2.2.2.1 rfl (fun _ _ hp => hp.2) (fun v_3 hp_5 => ?_)
    obtain ⟨rfl, -⟩ := hp_5
    refine xr_st (st' := [.int x_2, .int (obt + 1)]) rfl ?_
    refine xr_icmp_lt (tgt := 89) (n := 83) C dd_X5_pulse_2.2.2.2.2.2.2.2.2.2.2.2.1 rfl rfl (fun c_6 => ?_) (fun c_6 => ?_)
    · replace hR := yf_t c_6 hR
      obtain rfl := Option.some.inj hR
      exact ret ⟨rfl, rfl⟩ (Nat.le_of_ble_eq_true rfl) (Nat.le_of_ble_eq_true rfl) dd_X5_pulse_3.1
    · replace hR := yf_f c_6 hR
      refine xr_aload_n (n := 84) (j := 0) C dd_X5_pulse_2.2.2.2.2.2.2.2.2.2.2.2.2.1 rfl rfl ?_
      refine xr_aload_n (n := 85) (j := 1) C dd_X5_pulse_2.2.2.2.2.2.2.2.2.2.2.2.2.2.1 rfl rfl ?_
      refine xr_aload_n (n := 86) (j := 2) C dd_X5_pulse_2.2.2.2.2.2.2.2.2.2.2.2.2.2.2.1 rfl rfl ?_
      obtain ⟨x_7, hx_7, hR⟩ := yf_b hR
      refine xr_callV (n := 89) (As := [.ref w, .ref z]) (rest := []) C (kX5_closeTile l D cy (o := o) (oj := oj) (oy := oy) (osk := osk) (oti := oti) (ofr := ofr) (ofc := ofc) (obt := obt + 1) (obl := obl - 1) (obe := obe + 1) (ose := ose) (otk := otk) (oja := oja) (ojb := ojb) (ojr := ojr) (ojk := ojk) (ojc := ojc) (ojg := ojg) (ojs := ojs) (oy0 := oy0) (oy1 := oy1) (oy2 := oy2) (oy3 := oy3) (oy4 := oy4) (oy5 := oy5) (oy6 := oy6) (oy7 := oy7) (oy8 := oy8) (oy9 := oy9) (w := w) (wu := wu) (wm := wm) (wb := wb) (wk := wk) (wmn := wmn) (wmf := b_1.2.2) (z := z) (zv := zv) (zr := zr) (zc := zc) (zs := zs) (zvn := zvn) (zvf := zvf) hx_7) mX5_closeTile u_814 u_816 u_22 0 rfl rfl 15 [0, 1, 6, 7, 10, 11, 12, 13, 14] [2, 3, 4, 5, 8, 9] rfl (by decide +kernel) rfl rfl rfl rfl (Nat.le_of_ble_eq_true rfl) (Nat.le_of_ble_eq_true rfl) (Nat.le_of_ble_eq_true rfl) (Nat.le_of_ble_eq_true rfl) (Nat.le_of_ble_eq_true rfl) dd_X5_pulse_2.2.2.2.2.2.2.2.2.2.2.2.2.2.2.2.1 rfl (fun v_8 u_9 hp_10 => ?_)
      obtain ⟨rfl, rfl⟩ := hp_10
      refine xr_perm C 15 [0, 1, 9, 10, 11, 12, 2, 3, 13, 14, 4, 5, 6, 7, 8] [] [[(o, .inr (7, [.ref oj, .ref oy, .int osk, .int x_7.1, .int x_7.2.1, .int x_7.2.2.1, .int x_7.2.2.2.1, .int (obl - 1), .int (obe + 1), .int ose, .int x_7.2.2.2.2.1]))], [(oj, .inr (3, [.ref oja, .ref ojb, .int ojr, .int ojk, .int ojc, .int ojg, .int ojs]))], [(oja, .inr (6, [.ref ojan]))], [(ojan, .inl (cy 1, 81, .inl ojaf))], [(ojb, .inr (6, [.ref ojbn]))], [(ojbn, .inl (cy 1, 81, .inl ojbf))], [(oy, .inr (4, [.int oy0, .int oy1, .int oy2, .int oy3, .int oy4, .int oy5, .int oy6, .int oy7, .int oy8, .int oy9]))], [(w, .inr (2, [.ref wu, .ref wm, .int wb, .int wk]))], [(wu, .inr (6, [.ref wun]))], [(wun, .inl (cy 1, 81, .inl b_1.2.1))], [(wm, .inr (6, [.ref wmn]))], [(wmn, .inl (cy 1, 81, .inl x_7.2.2.2.2.2.1))], [(z, .inr (5, [.ref zv, .int x_7.2.2.2.2.2.2.1, .int x_7.2.2.2.2.2.2.2.1, .int x_7.2.2.2.2.2.2.2.2.1]))], [(zv, .inr (6, [.ref zvn]))], [(zvn, .inl (cy 1, 81, .inl x_7.2.2.2.2.2.2.2.2.2))]] rfl (by decide +kernel) rfl ?_
      obtain rfl := Option.some.inj hR
      exact ret ⟨rfl, rfl⟩ (Nat.le_of_ble_eq_true rfl) (Nat.le_of_ble_eq_true rfl) dd_X5_pulse_3.1
  refine y_loop (P := fun (s_1 : Int32 × (Nat → Int32) × (Nat → Int32)) => X p l e (yR 5 0 0) s m args below meth c D A H0 5 Q [[(o, .inr (7, [.ref oj, .ref oy, .int osk, .int oti, .int ofr, .int ofc, .int obt, .int obl, .int obe, .int ose, .int otk]))], [(oj, .inr (3, [.ref oja, .ref ojb, .int ojr, .int ojk, .int ojc, .int ojg, .int ojs]))], [(oja, .inr (6, [.ref ojan]))], [(ojan, .inl (cy 1, 81, .inl ojaf))], [(ojb, .inr (6, [.ref ojbn]))], [(ojbn, .inl (cy 1, 81, .inl ojbf))], [(oy, .inr (4, [.int oy0, .int oy1, .int oy2, .int oy3, .int oy4, .int oy5, .int oy6, .int oy7, .int oy8, .int oy9]))], [(w, .inr (2, [.ref wu, .ref wm, .int wb, .int wk]))], [(wu, .inr (6, [.ref wun]))], [(wun, .inl (cy 1, 81, .inl s_1.2.1))], [(wm, .inr (6, [.ref wmn]))], [(wmn, .inl (cy 1, 81, .inl s_1.2.2))], [(z, .inr (5, [.ref zv, .int zr, .int zc, .int zs]))], [(zv, .inr (6, [.ref zvn]))], [(zvn, .inl (cy 1, 81, .inl zvf))]] 0 0 [(0, .ref o), (1, .ref w), (2, .ref z), (3, .int s_1.1)] 2 []) ?_ _ (0, wuf, wmf) hb_1
  intro s_1 o_1 ho_1 hk_1 hx_1
  refine xr_iload_n (n := 3) (j := 3) C dd_X5_pulse_0.2.2.1 rfl rfl ?_
  refine xr_aload_n (n := 4) (j := 0) C dd_X5_pulse_0.2.2.2.1 rfl rfl ?_
  obtain ⟨x_11, hx_11, ho_1⟩ := yf_b ho_1
  refine xr_callVp (n := 7) (As := []) (rest := [.int s_1.1]) C (kX5_tileRows l D cy (o := o) (oj := oj) (oy := oy) (osk := osk) (oti := oti) (ofr := ofr) (ofc := ofc) (obt := obt) (obl := obl) (obe := obe) (ose := ose) (otk := otk) (oy0 := oy0) (oy1 := oy1) (oy2 := oy2) (oy3 := oy3) (oy4 := oy4) (oy5 := oy5) (oy6 := oy6) (oy7 := oy7) (oy8 := oy8) (oy9 := oy9) hx_11) mX5_tileRows u_433 u_435 u_10 0 rfl rfl 15 [0, 6] [1, 2, 3, 4, 5, 7, 8, 9, 10, 11, 12, 13, 14] rfl (by decide +kernel) rfl rfl rfl rfl (Nat.le_of_ble_eq_true rfl) (Nat.le_of_ble_eq_true rfl) (Nat.le_of_ble_eq_true rfl) (Nat.le_of_ble_eq_true rfl) (Nat.le_of_ble_eq_true rfl) dd_X5_pulse_0.2.2.2.2.1 rfl (fun _ _ hp => hp.2) (fun v_12 hp_14 => ?_)
  obtain ⟨rfl, -⟩ := hp_14
  refine xr_st (st' := [.int x_11, .int s_1.1]) rfl ?_
  refine xr_icmp_ge (tgt := 42) (n := 10) C dd_X5_pulse_0.2.2.2.2.2.1 rfl rfl (fun c_15 => ?_) (fun c_15 => ?_)
  · replace ho_1 := yf_t c_15 ho_1
    refine xr_lv (lv' := [(0, .ref o), (1, .ref w), (2, .ref z)]) [0, 1, 2] rfl ?_
    have e_16 := hx_1 _ (Option.some.inj ho_1).symm
    subst e_16
    exact K_1
  · replace ho_1 := yf_f c_15 ho_1
    refine xr_iconst (n := 11) (v := 0) C dd_X5_pulse_0.2.2.2.2.2.2.1 rfl rfl ?_
    refine xr_istore (n := 13) C [(4, .int 0), (0, .ref o), (1, .ref w), (2, .ref z), (3, .int s_1.1)] dd_X5_pulse_0.2.2.2.2.2.2.2.1 (by decide) rfl rfl ?_
    refine xr_lv (lv' := [(0, .ref o), (1, .ref w), (2, .ref z), (3, .int s_1.1), (4, .int 0)]) [1, 2, 3, 4, 0] rfl ?_
    obtain ⟨b_17, hb_17, ho_1⟩ := yf_b ho_1
    have K_17 : X p l e (yR 5 0 0) s m args below meth c D A H0 5 Q [[(o, .inr (7, [.ref oj, .ref oy, .int osk, .int oti, .int ofr, .int ofc, .int obt, .int obl, .int obe, .int ose, .int otk]))], [(oj, .inr (3, [.ref oja, .ref ojb, .int ojr, .int ojk, .int ojc, .int ojg, .int ojs]))], [(oja, .inr (6, [.ref ojan]))], [(ojan, .inl (cy 1, 81, .inl ojaf))], [(ojb, .inr (6, [.ref ojbn]))], [(ojbn, .inl (cy 1, 81, .inl ojbf))], [(oy, .inr (4, [.int oy0, .int oy1, .int oy2, .int oy3, .int oy4, .int oy5, .int oy6, .int oy7, .int oy8, .int oy9]))], [(w, .inr (2, [.ref wu, .ref wm, .int wb, .int wk]))], [(wu, .inr (6, [.ref wun]))], [(wun, .inl (cy 1, 81, .inl b_17.2.1))], [(wm, .inr (6, [.ref wmn]))], [(wmn, .inl (cy 1, 81, .inl b_17.2.2))], [(z, .inr (5, [.ref zv, .int zr, .int zc, .int zs]))], [(zv, .inr (6, [.ref zvn]))], [(zvn, .inl (cy 1, 81, .inl zvf))]] 0 0 [(0, .ref o), (1, .ref w), (2, .ref z), (3, .int s_1.1)] 36 [] := by
      refine xr_iinc (j := 3) (v := s_1.1 + 1) (n := 39) C [(3, .int (s_1.1 + 1)), (0, .ref o), (1, .ref w), (2, .ref z)] dd_X5_pulse_1.2.2.2.1 rfl rfl (by decide) rfl rfl ?_
      refine xr_goto (tgt := 2) C dd_X5_pulse_1.2.2.2.2.1 rfl ?_
      refine xr_lv (lv' := [(0, .ref o), (1, .ref w), (2, .ref z), (3, .int (s_1.1 + 1))]) [1, 2, 3, 0] rfl ?_
      exact hk_1 (s_1.1 + 1, b_17.2.1, b_17.2.2) (Option.some.inj ho_1).symm
    refine y_loop (P := fun (s_17 : Int32 × (Nat → Int32) × (Nat → Int32)) => X p l e (yR 5 0 0) s m args below meth c D A H0 5 Q [[(o, .inr (7, [.ref oj, .ref oy, .int osk, .int oti, .int ofr, .int ofc, .int obt, .int obl, .int obe, .int ose, .int otk]))], [(oj, .inr (3, [.ref oja, .ref ojb, .int ojr, .int ojk, .int ojc, .int ojg, .int ojs]))], [(oja, .inr (6, [.ref ojan]))], [(ojan, .inl (cy 1, 81, .inl ojaf))], [(ojb, .inr (6, [.ref ojbn]))], [(ojbn, .inl (cy 1, 81, .inl ojbf))], [(oy, .inr (4, [.int oy0, .int oy1, .int oy2, .int oy3, .int oy4, .int oy5, .int oy6, .int oy7, .int oy8, .int oy9]))], [(w, .inr (2, [.ref wu, .ref wm, .int wb, .int wk]))], [(wu, .inr (6, [.ref wun]))], [(wun, .inl (cy 1, 81, .inl s_17.2.1))], [(wm, .inr (6, [.ref wmn]))], [(wmn, .inl (cy 1, 81, .inl s_17.2.2))], [(z, .inr (5, [.ref zv, .int zr, .int zc, .int zs]))], [(zv, .inr (6, [.ref zvn]))], [(zvn, .inl (cy 1, 81, .inl zvf))]] 0 0 [(0, .ref o), (1, .ref w), (2, .ref z), (3, .int s_1.1), (4, .int s_17.1)] 13 []) ?_ _ (0, s_1.2.1, s_1.2.2) hb_17
    intro s_17 o_17 ho_17 hk_17 hx_17
    refine xr_iload (n := 15) (j := 4) C dd_X5_pulse_0.2.2.2.2.2.2.2.2.1 rfl rfl ?_
    refine xr_aload_n (n := 16) (j := 0) C dd_X5_pulse_0.2.2.2.2.2.2.2.2.2.1 rfl rfl ?_
    obtain ⟨x_18, hx_18, ho_17⟩ := yf_b ho_17
    refine xr_callVp (n := 19) (As := []) (rest := [.int s_17.1]) C (kX5_tileColumns l D cy (o := o) (oj := oj) (oy := oy) (osk := osk) (oti := oti) (ofr := ofr) (ofc := ofc) (obt := obt) (obl := obl) (obe := obe) (ose := ose) (otk := otk) (oy0 := oy0) (oy1 := oy1) (oy2 := oy2) (oy3 := oy3) (oy4 := oy4) (oy5 := oy5) (oy6 := oy6) (oy7 := oy7) (oy8 := oy8) (oy9 := oy9) hx_18) mX5_tileColumns u_440 u_442 u_11 0 rfl rfl 15 [0, 6] [1, 2, 3, 4, 5, 7, 8, 9, 10, 11, 12, 13, 14] rfl (by decide +kernel) rfl rfl rfl rfl (Nat.le_of_ble_eq_true rfl) (Nat.le_of_ble_eq_true rfl) (Nat.le_of_ble_eq_true rfl) (Nat.le_of_ble_eq_true rfl) (Nat.le_of_ble_eq_true rfl) dd_X5_pulse_0.2.2.2.2.2.2.2.2.2.2.1 rfl (fun _ _ hp => hp.2) (fun v_19 hp_21 => ?_)
    obtain ⟨rfl, -⟩ := hp_21
    refine xr_st (st' := [.int x_18, .int s_17.1]) rfl ?_
    refine xr_icmp_ge (tgt := 36) (n := 22) C dd_X5_pulse_0.2.2.2.2.2.2.2.2.2.2.2.1 rfl rfl (fun c_22 => ?_) (fun c_22 => ?_)
    · replace ho_17 := yf_t c_22 ho_17
      refine xr_lv (lv' := [(0, .ref o), (1, .ref w), (2, .ref z), (3, .int s_1.1)]) [0, 1, 2, 3] rfl ?_
      have e_23 := hx_17 _ (Option.some.inj ho_17).symm
      subst e_23
      exact K_17
    · replace ho_17 := yf_f c_22 ho_17
      refine xr_aload_n (n := 23) (j := 0) C dd_X5_pulse_0.2.2.2.2.2.2.2.2.2.2.2.2.1 rfl rfl ?_
      refine xr_aload_n (n := 24) (j := 1) C dd_X5_pulse_0.2.2.2.2.2.2.2.2.2.2.2.2.2.1 rfl rfl ?_
      refine xr_iload_n (n := 25) (j := 3) C dd_X5_pulse_0.2.2.2.2.2.2.2.2.2.2.2.2.2.2.1 rfl rfl ?_
      refine xr_iload (n := 27) (j := 4) C dd_X5_pulse_0.2.2.2.2.2.2.2.2.2.2.2.2.2.2.2.1 rfl rfl ?_
      obtain ⟨x_24, hx_24, ho_17⟩ := yf_b ho_17
      refine xr_callV (n := 30) (As := [.ref w, .int s_1.1, .int s_17.1]) (rest := []) C (kX5_feed l D cy (o := o) (oj := oj) (oy := oy) (osk := osk) (oti := oti) (ofr := ofr) (ofc := ofc) (obt := obt) (obl := obl) (obe := obe) (ose := ose) (otk := otk) (oja := oja) (ojb := ojb) (ojr := ojr) (ojk := ojk) (ojc := ojc) (ojg := ojg) (ojs := ojs) (ojan := ojan) (ojaf := ojaf) (ojbn := ojbn) (ojbf := ojbf) (oy0 := oy0) (oy1 := oy1) (oy2 := oy2) (oy3 := oy3) (oy4 := oy4) (oy5 := oy5) (oy6 := oy6) (oy7 := oy7) (oy8 := oy8) (oy9 := oy9) (w := w) (wu := wu) (wm := wm) (wb := wb) (wk := wk) (wun := wun) (wuf := s_17.2.1) (wmn := wmn) (wmf := s_17.2.2) (i1 := s_1.1) (i2 := s_17.1) hx_24) mX5_feed u_800 u_802 u_21 0 rfl rfl 15 [0, 1, 2, 3, 4, 5, 6, 7, 8, 9, 10, 11] [12, 13, 14] rfl (by decide +kernel) rfl rfl rfl rfl (Nat.le_of_ble_eq_true rfl) (Nat.le_of_ble_eq_true rfl) (Nat.le_of_ble_eq_true rfl) (Nat.le_of_ble_eq_true rfl) (Nat.le_of_ble_eq_true rfl) dd_X5_pulse_1.1 rfl (fun v_25 u_26 hp_27 => ?_)
      obtain ⟨rfl, rfl⟩ := hp_27
      refine xr_perm C 15 [0, 1, 2, 3, 4, 5, 6, 7, 8, 9, 10, 11, 12, 13, 14] [] [[(o, .inr (7, [.ref oj, .ref oy, .int osk, .int oti, .int ofr, .int ofc, .int obt, .int obl, .int obe, .int ose, .int otk]))], [(oj, .inr (3, [.ref oja, .ref ojb, .int ojr, .int ojk, .int ojc, .int ojg, .int ojs]))], [(oja, .inr (6, [.ref ojan]))], [(ojan, .inl (cy 1, 81, .inl ojaf))], [(ojb, .inr (6, [.ref ojbn]))], [(ojbn, .inl (cy 1, 81, .inl ojbf))], [(oy, .inr (4, [.int oy0, .int oy1, .int oy2, .int oy3, .int oy4, .int oy5, .int oy6, .int oy7, .int oy8, .int oy9]))], [(w, .inr (2, [.ref wu, .ref wm, .int wb, .int wk]))], [(wu, .inr (6, [.ref wun]))], [(wun, .inl (cy 1, 81, .inl x_24.1))], [(wm, .inr (6, [.ref wmn]))], [(wmn, .inl (cy 1, 81, .inl x_24.2))], [(z, .inr (5, [.ref zv, .int zr, .int zc, .int zs]))], [(zv, .inr (6, [.ref zvn]))], [(zvn, .inl (cy 1, 81, .inl zvf))]] rfl (by decide +kernel) rfl ?_
      refine xr_iinc (j := 4) (v := s_17.1 + 1) (n := 33) C [(4, .int (s_17.1 + 1)), (0, .ref o), (1, .ref w), (2, .ref z), (3, .int s_1.1)] dd_X5_pulse_1.2.1 rfl rfl (by decide) rfl rfl ?_
      refine xr_goto (tgt := 13) C dd_X5_pulse_1.2.2.1 rfl ?_
      refine xr_lv (lv' := [(0, .ref o), (1, .ref w), (2, .ref z), (3, .int s_1.1), (4, .int (s_17.1 + 1))]) [1, 2, 3, 4, 0] rfl ?_
      exact hk_17 (s_17.1 + 1, x_24.1, x_24.2) (Option.some.inj ho_17).symm
theorem dd_X5_isInLayout_0 : dk_R cX5_isInLayout [(0, .aload_n 0, 1), (1, .invokevirtual 147, 3), (4, .ifCond .eq 35, 3), (7, .aload_n 0, 1), (8, .getfield 21, 3), (11, .getfield 127, 3), (14, .iload_n 1, 1), (15, .ishr, 1), (16, .iconst 1, 1), (17, .iand, 1), (18, .ifCond .eq 21, 3), (21, .aload_n 0, 1), (22, .getfield 21, 3), (25, .getfield 130, 3), (28, .iload_n 2, 1), (29, .ishr, 1)] := dk_use _ _ (by decide +kernel)
theorem dd_X5_isInLayout_1 : dk_R cX5_isInLayout [(30, .iconst 1, 1), (31, .iand, 1), (32, .ifCond .eq 7, 3), (35, .iconst 1, 1), (36, .goto 4, 3), (39, .iconst 0, 1), (40, .ireturn, 1)] := dk_use _ _ (by decide +kernel)
def fX5_isInLayout (obl : Int32) (oy3 : Int32) (oy4 : Int32) (i1 : Int32) (i2 : Int32) : Option (Int32) := ((fX5_runs obl).bind fun x_1 => (if x_1 = 0 then some 0 else (if ((oy3 >>> (i1 &&& 31)) &&& 1) = 0 then some 0 else (if ((oy4 >>> (i2 &&& 31)) &&& 1) = 0 then some 0 else some 1))))
abbrev hX5_isInLayout : Cond := .code yX5_isInLayout cX5_isInLayout 3 (some .boolean)
theorem mX5_isInLayout : yM yX5_isInLayout hX5_isInLayout 2 := ⟨u_500, u_62, by decide +kernel, by decide +kernel, by decide +kernel⟩
set_option maxHeartbeats 4000000 in
set_option maxRecDepth 100000 in
theorem kX5_isInLayout (l : Launch) (D : va_G) (cy : Nat → ClassId) (o : Nat) (oj : Nat) (oy : Nat) (osk : Int32) (oti : Int32) (ofr : Int32) (ofc : Int32) (obt : Int32) (obl : Int32) (obe : Int32) (ose : Int32) (otk : Int32) (oy0 : Int32) (oy1 : Int32) (oy2 : Int32) (oy3 : Int32) (oy4 : Int32) (oy5 : Int32) (oy6 : Int32) (oy7 : Int32) (oy8 : Int32) (oy9 : Int32) (i1 : Int32) (i2 : Int32) {res : Int32} (hR : fX5_isInLayout obl oy3 oy4 i1 i2 = some res) : YM l D cy yX5_isInLayout hX5_isInLayout 2 0 0 [.ref o, .int i1, .int i2] [[(o, .inr (7, [.ref oj, .ref oy, .int osk, .int oti, .int ofr, .int ofc, .int obt, .int obl, .int obe, .int ose, .int otk]))], [(oy, .inr (4, [.int oy0, .int oy1, .int oy2, .int oy3, .int oy4, .int oy5, .int oy6, .int oy7, .int oy8, .int oy9]))]] (fun v u => v = some (.int res) ∧ u = [[(o, .inr (7, [.ref oj, .ref oy, .int osk, .int oti, .int ofr, .int ofc, .int obt, .int obl, .int obe, .int ose, .int otk]))], [(oy, .inr (4, [.int oy0, .int oy1, .int oy2, .int oy3, .int oy4, .int oy5, .int oy6, .int oy7, .int oy8, .int oy9]))]]) := by
  unfold fX5_isInLayout at hR
  refine YM.ofZ (cc := cX5_isInLayout) (maxL := 3) (ret := (some .boolean)) (by decide +kernel) rfl (Nat.le_of_ble_eq_true rfl) [(0, .ref o), (1, .int i1), (2, .int i2)] rfl .boolean rfl (fun p e s m args below meth c A H0 Q C hnm ret => ?_)
  refine xr_aload_n (n := 1) (j := 0) C dd_X5_isInLayout_0.1 rfl rfl ?_
  obtain ⟨x_1, hx_1, hR⟩ := yf_b hR
  refine xr_callVp (n := 4) (As := []) (rest := []) C (kX5_runs l D cy (o := o) (oj := oj) (oy := oy) (osk := osk) (oti := oti) (ofr := ofr) (ofc := ofc) (obt := obt) (obl := obl) (obe := obe) (ose := ose) (otk := otk) hx_1) mX5_runs u_429 u_430 u_431 0 rfl rfl 2 [0] [1] rfl (by decide +kernel) rfl rfl rfl rfl (Nat.le_of_ble_eq_true rfl) (Nat.le_of_ble_eq_true rfl) (Nat.le_of_ble_eq_true rfl) (Nat.le_of_ble_eq_true rfl) (Nat.le_of_ble_eq_true rfl) dd_X5_isInLayout_0.2.1 rfl (fun _ _ hp => hp.2) (fun v_2 hp_4 => ?_)
  obtain ⟨rfl, -⟩ := hp_4
  refine xr_st (st' := [.int x_1]) rfl ?_
  refine xr_if_eq (tgt := 39) (n := 7) C dd_X5_isInLayout_0.2.2.1 rfl rfl (fun c_5 => ?_) (fun c_5 => ?_)
  · replace hR := yf_t c_5 hR
    refine xr_iconst (n := 40) (v := 0) C dd_X5_isInLayout_1.2.2.2.2.2.1 rfl rfl ?_
    obtain rfl := Option.some.inj hR
    exact ret 0 (by decide) ⟨rfl, rfl⟩ (Nat.le_of_ble_eq_true rfl) (Nat.le_of_ble_eq_true rfl) dd_X5_isInLayout_1.2.2.2.2.2.2.1
  · replace hR := yf_f c_5 hR
    refine xr_aload_n (n := 8) (j := 0) C dd_X5_isInLayout_0.2.2.2.1 rfl rfl ?_
    refine xr_get (n := 11) C 0 rfl rfl 1 (by decide) in_X5 u_249 rfl (v := .ref oy) rfl dd_X5_isInLayout_0.2.2.2.2.1 rfl ?_
    refine xr_getN (n := 14) C 1 rfl rfl 3 (by decide) in_X2 RX6 (List.mem_of_getElem? (i := 31) rfl) rfl (v := .int oy3) rfl dd_X5_isInLayout_0.2.2.2.2.2.1 rfl ?_
    refine xr_iload_n (n := 15) (j := 1) C dd_X5_isInLayout_0.2.2.2.2.2.2.1 rfl rfl ?_
    refine xr_ishr (n := 16) C dd_X5_isInLayout_0.2.2.2.2.2.2.2.1 rfl ?_
    refine xr_iconst (n := 17) (v := 1) C dd_X5_isInLayout_0.2.2.2.2.2.2.2.2.1 rfl rfl ?_
    refine xr_iand (n := 18) C dd_X5_isInLayout_0.2.2.2.2.2.2.2.2.2.1 rfl ?_
    refine xr_if_eq (tgt := 39) (n := 21) C dd_X5_isInLayout_0.2.2.2.2.2.2.2.2.2.2.1 rfl rfl (fun c_6 => ?_) (fun c_6 => ?_)
    · replace hR := yf_t c_6 hR
      refine xr_iconst (n := 40) (v := 0) C dd_X5_isInLayout_1.2.2.2.2.2.1 rfl rfl ?_
      obtain rfl := Option.some.inj hR
      exact ret 0 (by decide) ⟨rfl, rfl⟩ (Nat.le_of_ble_eq_true rfl) (Nat.le_of_ble_eq_true rfl) dd_X5_isInLayout_1.2.2.2.2.2.2.1
    · replace hR := yf_f c_6 hR
      refine xr_aload_n (n := 22) (j := 0) C dd_X5_isInLayout_0.2.2.2.2.2.2.2.2.2.2.2.1 rfl rfl ?_
      refine xr_get (n := 25) C 0 rfl rfl 1 (by decide) in_X5 u_249 rfl (v := .ref oy) rfl dd_X5_isInLayout_0.2.2.2.2.2.2.2.2.2.2.2.2.1 rfl ?_
      refine xr_getN (n := 28) C 1 rfl rfl 4 (by decide) in_X2 RX6 (List.mem_of_getElem? (i := 33) rfl) rfl (v := .int oy4) rfl dd_X5_isInLayout_0.2.2.2.2.2.2.2.2.2.2.2.2.2.1 rfl ?_
      refine xr_iload_n (n := 29) (j := 2) C dd_X5_isInLayout_0.2.2.2.2.2.2.2.2.2.2.2.2.2.2.1 rfl rfl ?_
      refine xr_ishr (n := 30) C dd_X5_isInLayout_0.2.2.2.2.2.2.2.2.2.2.2.2.2.2.2.1 rfl ?_
      refine xr_iconst (n := 31) (v := 1) C dd_X5_isInLayout_1.1 rfl rfl ?_
      refine xr_iand (n := 32) C dd_X5_isInLayout_1.2.1 rfl ?_
      refine xr_if_eq (tgt := 39) (n := 35) C dd_X5_isInLayout_1.2.2.1 rfl rfl (fun c_7 => ?_) (fun c_7 => ?_)
      · replace hR := yf_t c_7 hR
        refine xr_iconst (n := 40) (v := 0) C dd_X5_isInLayout_1.2.2.2.2.2.1 rfl rfl ?_
        obtain rfl := Option.some.inj hR
        exact ret 0 (by decide) ⟨rfl, rfl⟩ (Nat.le_of_ble_eq_true rfl) (Nat.le_of_ble_eq_true rfl) dd_X5_isInLayout_1.2.2.2.2.2.2.1
      · replace hR := yf_f c_7 hR
        refine xr_iconst (n := 36) (v := 1) C dd_X5_isInLayout_1.2.2.2.1 rfl rfl ?_
        refine xr_goto (tgt := 40) C dd_X5_isInLayout_1.2.2.2.2.1 rfl ?_
        obtain rfl := Option.some.inj hR
        exact ret 1 (by decide) ⟨rfl, rfl⟩ (Nat.le_of_ble_eq_true rfl) (Nat.le_of_ble_eq_true rfl) dd_X5_isInLayout_1.2.2.2.2.2.2.1
theorem dd_X5_isInTile_0 : dk_R cX5_isInTile [(0, .aload_n 0, 1), (1, .iload_n 1, 1), (2, .iload_n 2, 1), (3, .invokevirtual 162, 3), (6, .ifCond .eq 43, 3), (9, .aload_n 0, 1), (10, .getfield 21, 3), (13, .getfield 127, 3), (16, .iload_n 1, 1), (17, .invokestatic 166, 3), (20, .aload_n 0, 1), (21, .invokevirtual 104, 3), (24, .if_icmp .ge 25, 3), (27, .aload_n 0, 1), (28, .getfield 21, 3), (31, .getfield 130, 3)] := dk_use _ _ (by decide +kernel)
theorem dd_X5_isInTile_1 : dk_R cX5_isInTile [(34, .iload_n 2, 1), (35, .invokestatic 166, 3), (38, .aload_n 0, 1), (39, .invokevirtual 107, 3), (42, .if_icmp .ge 7, 3), (45, .iconst 1, 1), (46, .goto 4, 3), (49, .iconst 0, 1), (50, .ireturn, 1)] := dk_use _ _ (by decide +kernel)
def fX5_isInTile (ofr : Int32) (ofc : Int32) (obl : Int32) (oy0 : Int32) (oy1 : Int32) (oy3 : Int32) (oy4 : Int32) (oy5 : Int32) (oy6 : Int32) (i1 : Int32) (i2 : Int32) : Option (Int32) := ((fX5_isInLayout obl oy3 oy4 i1 i2).bind fun x_1 => (if x_1 = 0 then some 0 else ((fX5_placeOf oy3 i1).bind fun x_6 => ((fX5_tileRows ofr oy0 oy5).bind fun x_10 => (if x_10 ≤ x_6 then some 0 else ((fX5_placeOf oy4 i2).bind fun x_15 => ((fX5_tileColumns ofc oy1 oy6).bind fun x_19 => (if x_19 ≤ x_15 then some 0 else some 1))))))))
abbrev hX5_isInTile : Cond := .code yX5_isInTile cX5_isInTile 3 (some .boolean)
theorem mX5_isInTile : yM yX5_isInTile hX5_isInTile 2 := ⟨u_496, u_62, by decide +kernel, by decide +kernel, by decide +kernel⟩
set_option maxHeartbeats 4000000 in
set_option maxRecDepth 100000 in
theorem kX5_isInTile (l : Launch) (D : va_G) (cy : Nat → ClassId) (o : Nat) (oj : Nat) (oy : Nat) (osk : Int32) (oti : Int32) (ofr : Int32) (ofc : Int32) (obt : Int32) (obl : Int32) (obe : Int32) (ose : Int32) (otk : Int32) (oy0 : Int32) (oy1 : Int32) (oy2 : Int32) (oy3 : Int32) (oy4 : Int32) (oy5 : Int32) (oy6 : Int32) (oy7 : Int32) (oy8 : Int32) (oy9 : Int32) (i1 : Int32) (i2 : Int32) {res : Int32} (hR : fX5_isInTile ofr ofc obl oy0 oy1 oy3 oy4 oy5 oy6 i1 i2 = some res) : YM l D cy yX5_isInTile hX5_isInTile 3 0 0 [.ref o, .int i1, .int i2] [[(o, .inr (7, [.ref oj, .ref oy, .int osk, .int oti, .int ofr, .int ofc, .int obt, .int obl, .int obe, .int ose, .int otk]))], [(oy, .inr (4, [.int oy0, .int oy1, .int oy2, .int oy3, .int oy4, .int oy5, .int oy6, .int oy7, .int oy8, .int oy9]))]] (fun v u => v = some (.int res) ∧ u = [[(o, .inr (7, [.ref oj, .ref oy, .int osk, .int oti, .int ofr, .int ofc, .int obt, .int obl, .int obe, .int ose, .int otk]))], [(oy, .inr (4, [.int oy0, .int oy1, .int oy2, .int oy3, .int oy4, .int oy5, .int oy6, .int oy7, .int oy8, .int oy9]))]]) := by
  unfold fX5_isInTile at hR
  refine YM.ofZ (cc := cX5_isInTile) (maxL := 3) (ret := (some .boolean)) (by decide +kernel) rfl (Nat.le_of_ble_eq_true rfl) [(0, .ref o), (1, .int i1), (2, .int i2)] rfl .boolean rfl (fun p e s m args below meth c A H0 Q C hnm ret => ?_)
  refine xr_aload_n (n := 1) (j := 0) C dd_X5_isInTile_0.1 rfl rfl ?_
  refine xr_iload_n (n := 2) (j := 1) C dd_X5_isInTile_0.2.1 rfl rfl ?_
  refine xr_iload_n (n := 3) (j := 2) C dd_X5_isInTile_0.2.2.1 rfl rfl ?_
  obtain ⟨x_1, hx_1, hR⟩ := yf_b hR
  refine xr_callVp (n := 6) (As := [.int i1, .int i2]) (rest := []) C (kX5_isInLayout l D cy (o := o) (oj := oj) (oy := oy) (osk := osk) (oti := oti) (ofr := ofr) (ofc := ofc) (obt := obt) (obl := obl) (obe := obe) (ose := ose) (otk := otk) (oy0 := oy0) (oy1 := oy1) (oy2 := oy2) (oy3 := oy3) (oy4 := oy4) (oy5 := oy5) (oy6 := oy6) (oy7 := oy7) (oy8 := oy8) (oy9 := oy9) (i1 := i1) (i2 := i2) hx_1) mX5_isInLayout u_497 u_498 u_499 0 rfl rfl 2 [0, 1] [] rfl (by decide +kernel) rfl rfl rfl rfl (Nat.le_of_ble_eq_true rfl) (Nat.le_of_ble_eq_true rfl) (Nat.le_of_ble_eq_true rfl) (Nat.le_of_ble_eq_true rfl) (Nat.le_of_ble_eq_true rfl) dd_X5_isInTile_0.2.2.2.1 rfl (fun _ _ hp => hp.2) (fun v_2 hp_4 => ?_)
  obtain ⟨rfl, -⟩ := hp_4
  refine xr_st (st' := [.int x_1]) rfl ?_
  refine xr_if_eq (tgt := 49) (n := 9) C dd_X5_isInTile_0.2.2.2.2.1 rfl rfl (fun c_5 => ?_) (fun c_5 => ?_)
  · replace hR := yf_t c_5 hR
    refine xr_iconst (n := 50) (v := 0) C dd_X5_isInTile_1.2.2.2.2.2.2.2.1 rfl rfl ?_
    obtain rfl := Option.some.inj hR
    exact ret 0 (by decide) ⟨rfl, rfl⟩ (Nat.le_of_ble_eq_true rfl) (Nat.le_of_ble_eq_true rfl) dd_X5_isInTile_1.2.2.2.2.2.2.2.2.1
  · replace hR := yf_f c_5 hR
    refine xr_aload_n (n := 10) (j := 0) C dd_X5_isInTile_0.2.2.2.2.2.1 rfl rfl ?_
    refine xr_get (n := 13) C 0 rfl rfl 1 (by decide) in_X5 u_249 rfl (v := .ref oy) rfl dd_X5_isInTile_0.2.2.2.2.2.2.1 rfl ?_
    refine xr_getN (n := 16) C 1 rfl rfl 3 (by decide) in_X2 RX6 (List.mem_of_getElem? (i := 31) rfl) rfl (v := .int oy3) rfl dd_X5_isInTile_0.2.2.2.2.2.2.2.1 rfl ?_
    refine xr_iload_n (n := 17) (j := 1) C dd_X5_isInTile_0.2.2.2.2.2.2.2.2.1 rfl rfl ?_
    obtain ⟨x_6, hx_6, hR⟩ := yf_b hR
    refine xr_callSp (n := 20) (As := [.int oy3, .int i1]) (rest := []) C (kX5_placeOf l D cy (i1 := oy3) (i2 := i1) hx_6) mX5_placeOf u_501 u_502 2 [] [0, 1] rfl (by decide +kernel) rfl rfl rfl rfl (Nat.le_of_ble_eq_true rfl) (Nat.le_of_ble_eq_true rfl) (Nat.le_of_ble_eq_true rfl) (Nat.le_of_ble_eq_true rfl) (Nat.le_of_ble_eq_true rfl) dd_X5_isInTile_0.2.2.2.2.2.2.2.2.2.1 rfl (fun _ _ hp => hp.2) (fun v_7 hp_9 => ?_)
    obtain ⟨rfl, -⟩ := hp_9
    refine xr_st (st' := [.int x_6]) rfl ?_
    refine xr_aload_n (n := 21) (j := 0) C dd_X5_isInTile_0.2.2.2.2.2.2.2.2.2.2.1 rfl rfl ?_
    obtain ⟨x_10, hx_10, hR⟩ := yf_b hR
    refine xr_callVp (n := 24) (As := []) (rest := [.int x_6]) C (kX5_tileRows l D cy (o := o) (oj := oj) (oy := oy) (osk := osk) (oti := oti) (ofr := ofr) (ofc := ofc) (obt := obt) (obl := obl) (obe := obe) (ose := ose) (otk := otk) (oy0 := oy0) (oy1 := oy1) (oy2 := oy2) (oy3 := oy3) (oy4 := oy4) (oy5 := oy5) (oy6 := oy6) (oy7 := oy7) (oy8 := oy8) (oy9 := oy9) hx_10) mX5_tileRows u_433 u_435 u_10 0 rfl rfl 2 [0, 1] [] rfl (by decide +kernel) rfl rfl rfl rfl (Nat.le_of_ble_eq_true rfl) (Nat.le_of_ble_eq_true rfl) (Nat.le_of_ble_eq_true rfl) (Nat.le_of_ble_eq_true rfl) (Nat.le_of_ble_eq_true rfl) dd_X5_isInTile_0.2.2.2.2.2.2.2.2.2.2.2.1 rfl (fun _ _ hp => hp.2) (fun v_11 hp_13 => ?_)
    obtain ⟨rfl, -⟩ := hp_13
    refine xr_st (st' := [.int x_10, .int x_6]) rfl ?_
    refine xr_icmp_ge (tgt := 49) (n := 27) C dd_X5_isInTile_0.2.2.2.2.2.2.2.2.2.2.2.2.1 rfl rfl (fun c_14 => ?_) (fun c_14 => ?_)
    · replace hR := yf_t c_14 hR
      refine xr_iconst (n := 50) (v := 0) C dd_X5_isInTile_1.2.2.2.2.2.2.2.1 rfl rfl ?_
      obtain rfl := Option.some.inj hR
      exact ret 0 (by decide) ⟨rfl, rfl⟩ (Nat.le_of_ble_eq_true rfl) (Nat.le_of_ble_eq_true rfl) dd_X5_isInTile_1.2.2.2.2.2.2.2.2.1
    · replace hR := yf_f c_14 hR
      refine xr_aload_n (n := 28) (j := 0) C dd_X5_isInTile_0.2.2.2.2.2.2.2.2.2.2.2.2.2.1 rfl rfl ?_
      refine xr_get (n := 31) C 0 rfl rfl 1 (by decide) in_X5 u_249 rfl (v := .ref oy) rfl dd_X5_isInTile_0.2.2.2.2.2.2.2.2.2.2.2.2.2.2.1 rfl ?_
      refine xr_getN (n := 34) C 1 rfl rfl 4 (by decide) in_X2 RX6 (List.mem_of_getElem? (i := 33) rfl) rfl (v := .int oy4) rfl dd_X5_isInTile_0.2.2.2.2.2.2.2.2.2.2.2.2.2.2.2.1 rfl ?_
      refine xr_iload_n (n := 35) (j := 2) C dd_X5_isInTile_1.1 rfl rfl ?_
      obtain ⟨x_15, hx_15, hR⟩ := yf_b hR
      refine xr_callSp (n := 38) (As := [.int oy4, .int i2]) (rest := []) C (kX5_placeOf l D cy (i1 := oy4) (i2 := i2) hx_15) mX5_placeOf u_501 u_502 2 [] [0, 1] rfl (by decide +kernel) rfl rfl rfl rfl (Nat.le_of_ble_eq_true rfl) (Nat.le_of_ble_eq_true rfl) (Nat.le_of_ble_eq_true rfl) (Nat.le_of_ble_eq_true rfl) (Nat.le_of_ble_eq_true rfl) dd_X5_isInTile_1.2.1 rfl (fun _ _ hp => hp.2) (fun v_16 hp_18 => ?_)
      obtain ⟨rfl, -⟩ := hp_18
      refine xr_st (st' := [.int x_15]) rfl ?_
      refine xr_aload_n (n := 39) (j := 0) C dd_X5_isInTile_1.2.2.1 rfl rfl ?_
      obtain ⟨x_19, hx_19, hR⟩ := yf_b hR
      refine xr_callVp (n := 42) (As := []) (rest := [.int x_15]) C (kX5_tileColumns l D cy (o := o) (oj := oj) (oy := oy) (osk := osk) (oti := oti) (ofr := ofr) (ofc := ofc) (obt := obt) (obl := obl) (obe := obe) (ose := ose) (otk := otk) (oy0 := oy0) (oy1 := oy1) (oy2 := oy2) (oy3 := oy3) (oy4 := oy4) (oy5 := oy5) (oy6 := oy6) (oy7 := oy7) (oy8 := oy8) (oy9 := oy9) hx_19) mX5_tileColumns u_440 u_442 u_11 0 rfl rfl 2 [0, 1] [] rfl (by decide +kernel) rfl rfl rfl rfl (Nat.le_of_ble_eq_true rfl) (Nat.le_of_ble_eq_true rfl) (Nat.le_of_ble_eq_true rfl) (Nat.le_of_ble_eq_true rfl) (Nat.le_of_ble_eq_true rfl) dd_X5_isInTile_1.2.2.2.1 rfl (fun _ _ hp => hp.2) (fun v_20 hp_22 => ?_)
      obtain ⟨rfl, -⟩ := hp_22
      refine xr_st (st' := [.int x_19, .int x_15]) rfl ?_
      refine xr_icmp_ge (tgt := 49) (n := 45) C dd_X5_isInTile_1.2.2.2.2.1 rfl rfl (fun c_23 => ?_) (fun c_23 => ?_)
      · replace hR := yf_t c_23 hR
        refine xr_iconst (n := 50) (v := 0) C dd_X5_isInTile_1.2.2.2.2.2.2.2.1 rfl rfl ?_
        obtain rfl := Option.some.inj hR
        exact ret 0 (by decide) ⟨rfl, rfl⟩ (Nat.le_of_ble_eq_true rfl) (Nat.le_of_ble_eq_true rfl) dd_X5_isInTile_1.2.2.2.2.2.2.2.2.1
      · replace hR := yf_f c_23 hR
        refine xr_iconst (n := 46) (v := 1) C dd_X5_isInTile_1.2.2.2.2.2.1 rfl rfl ?_
        refine xr_goto (tgt := 50) C dd_X5_isInTile_1.2.2.2.2.2.2.1 rfl ?_
        obtain rfl := Option.some.inj hR
        exact ret 1 (by decide) ⟨rfl, rfl⟩ (Nat.le_of_ble_eq_true rfl) (Nat.le_of_ble_eq_true rfl) dd_X5_isInTile_1.2.2.2.2.2.2.2.2.1
theorem dd_X5_lastStepOf_0 : dk_R cX5_lastStepOf [(0, .aload_n 0, 1), (1, .iload_n 1, 1), (2, .iload_n 2, 1), (3, .invokevirtual 169, 3), (6, .ifCond .ne 5, 3), (9, .iconst (-1), 1), (10, .ireturn, 1), (11, .aload_n 0, 1), (12, .getfield 38, 3), (15, .iconst 1, 1), (16, .isub, 1), (17, .aload_n 0, 1), (18, .getfield 21, 3), (21, .getfield 127, 3), (24, .iload_n 1, 1), (25, .invokestatic 166, 3)] := dk_use _ _ (by decide +kernel)
theorem dd_X5_lastStepOf_1 : dk_R cX5_lastStepOf [(28, .isub, 1), (29, .aload_n 0, 1), (30, .getfield 21, 3), (33, .getfield 130, 3), (36, .iload_n 2, 1), (37, .invokestatic 166, 3), (40, .isub, 1), (41, .istore_n 3, 1), (42, .iload_n 3, 1), (43, .ifCond .lt 18, 3), (46, .iload_n 3, 1), (47, .aload_n 0, 1), (48, .getfield 21, 3), (51, .getfield 110, 3), (54, .if_icmp .ge 7, 3), (57, .iload_n 3, 1)] := dk_use _ _ (by decide +kernel)
theorem dd_X5_lastStepOf_2 : dk_R cX5_lastStepOf [(58, .goto 4, 3), (61, .iconst (-1), 1), (62, .ireturn, 1)] := dk_use _ _ (by decide +kernel)
def fX5_lastStepOf (ofr : Int32) (ofc : Int32) (obt : Int32) (obl : Int32) (oy0 : Int32) (oy1 : Int32) (oy2 : Int32) (oy3 : Int32) (oy4 : Int32) (oy5 : Int32) (oy6 : Int32) (i1 : Int32) (i2 : Int32) : Option (Int32) := ((fX5_isInTile ofr ofc obl oy0 oy1 oy3 oy4 oy5 oy6 i1 i2).bind fun x_1 => (if x_1 = 0 then some (-1) else ((fX5_placeOf oy3 i1).bind fun x_6 => ((fX5_placeOf oy4 i2).bind fun x_10 => (if (((obt - 1) - x_6) - x_10) < 0 then some (-1) else (if oy2 ≤ (((obt - 1) - x_6) - x_10) then some (-1) else some (((obt - 1) - x_6) - x_10)))))))
abbrev hX5_lastStepOf : Cond := .code yX5_lastStepOf cX5_lastStepOf 4 (some .int)
theorem mX5_lastStepOf : yM yX5_lastStepOf hX5_lastStepOf 2 := ⟨u_508, u_62, by decide +kernel, by decide +kernel, by decide +kernel⟩
set_option maxHeartbeats 4000000 in
set_option maxRecDepth 100000 in
theorem kX5_lastStepOf (l : Launch) (D : va_G) (cy : Nat → ClassId) (o : Nat) (oj : Nat) (oy : Nat) (osk : Int32) (oti : Int32) (ofr : Int32) (ofc : Int32) (obt : Int32) (obl : Int32) (obe : Int32) (ose : Int32) (otk : Int32) (oy0 : Int32) (oy1 : Int32) (oy2 : Int32) (oy3 : Int32) (oy4 : Int32) (oy5 : Int32) (oy6 : Int32) (oy7 : Int32) (oy8 : Int32) (oy9 : Int32) (i1 : Int32) (i2 : Int32) {res : Int32} (hR : fX5_lastStepOf ofr ofc obt obl oy0 oy1 oy2 oy3 oy4 oy5 oy6 i1 i2 = some res) : YM l D cy yX5_lastStepOf hX5_lastStepOf 4 0 0 [.ref o, .int i1, .int i2] [[(o, .inr (7, [.ref oj, .ref oy, .int osk, .int oti, .int ofr, .int ofc, .int obt, .int obl, .int obe, .int ose, .int otk]))], [(oy, .inr (4, [.int oy0, .int oy1, .int oy2, .int oy3, .int oy4, .int oy5, .int oy6, .int oy7, .int oy8, .int oy9]))]] (fun v u => v = some (.int res) ∧ u = [[(o, .inr (7, [.ref oj, .ref oy, .int osk, .int oti, .int ofr, .int ofc, .int obt, .int obl, .int obe, .int ose, .int otk]))], [(oy, .inr (4, [.int oy0, .int oy1, .int oy2, .int oy3, .int oy4, .int oy5, .int oy6, .int oy7, .int oy8, .int oy9]))]]) := by
  unfold fX5_lastStepOf at hR
  refine YM.ofI (cc := cX5_lastStepOf) (maxL := 4) (ret := (some .int)) (by decide +kernel) rfl (Nat.le_of_ble_eq_true rfl) [(0, .ref o), (1, .int i1), (2, .int i2)] rfl rfl (fun p e s m args below meth c A H0 Q C hnm ret => ?_)
  refine xr_aload_n (n := 1) (j := 0) C dd_X5_lastStepOf_0.1 rfl rfl ?_
  refine xr_iload_n (n := 2) (j := 1) C dd_X5_lastStepOf_0.2.1 rfl rfl ?_
  refine xr_iload_n (n := 3) (j := 2) C dd_X5_lastStepOf_0.2.2.1 rfl rfl ?_
  obtain ⟨x_1, hx_1, hR⟩ := yf_b hR
  refine xr_callVp (n := 6) (As := [.int i1, .int i2]) (rest := []) C (kX5_isInTile l D cy (o := o) (oj := oj) (oy := oy) (osk := osk) (oti := oti) (ofr := ofr) (ofc := ofc) (obt := obt) (obl := obl) (obe := obe) (ose := ose) (otk := otk) (oy0 := oy0) (oy1 := oy1) (oy2 := oy2) (oy3 := oy3) (oy4 := oy4) (oy5 := oy5) (oy6 := oy6) (oy7 := oy7) (oy8 := oy8) (oy9 := oy9) (i1 := i1) (i2 := i2) hx_1) mX5_isInTile u_509 u_494 u_495 0 rfl rfl 2 [0, 1] [] rfl (by decide +kernel) rfl rfl rfl rfl (Nat.le_of_ble_eq_true rfl) (Nat.le_of_ble_eq_true rfl) (Nat.le_of_ble_eq_true rfl) (Nat.le_of_ble_eq_true rfl) (Nat.le_of_ble_eq_true rfl) dd_X5_lastStepOf_0.2.2.2.1 rfl (fun _ _ hp => hp.2) (fun v_2 hp_4 => ?_)
  obtain ⟨rfl, -⟩ := hp_4
  refine xr_st (st' := [.int x_1]) rfl ?_
  refine xr_if_ne (tgt := 11) (n := 9) C dd_X5_lastStepOf_0.2.2.2.2.1 rfl rfl (fun c_5 => ?_) (fun c_5 => ?_)
  · replace hR := yf_f c_5 hR
    refine xr_aload_n (n := 12) (j := 0) C dd_X5_lastStepOf_0.2.2.2.2.2.2.2.1 rfl rfl ?_
    refine xr_get (n := 15) C 0 rfl rfl 6 (by decide) in_X5 u_255 rfl (v := .int obt) rfl dd_X5_lastStepOf_0.2.2.2.2.2.2.2.2.1 rfl ?_
    refine xr_iconst (n := 16) (v := 1) C dd_X5_lastStepOf_0.2.2.2.2.2.2.2.2.2.1 rfl rfl ?_
    refine xr_isub (n := 17) C dd_X5_lastStepOf_0.2.2.2.2.2.2.2.2.2.2.1 rfl ?_
    refine xr_aload_n (n := 18) (j := 0) C dd_X5_lastStepOf_0.2.2.2.2.2.2.2.2.2.2.2.1 rfl rfl ?_
    refine xr_get (n := 21) C 0 rfl rfl 1 (by decide) in_X5 u_249 rfl (v := .ref oy) rfl dd_X5_lastStepOf_0.2.2.2.2.2.2.2.2.2.2.2.2.1 rfl ?_
    refine xr_getN (n := 24) C 1 rfl rfl 3 (by decide) in_X2 RX6 (List.mem_of_getElem? (i := 31) rfl) rfl (v := .int oy3) rfl dd_X5_lastStepOf_0.2.2.2.2.2.2.2.2.2.2.2.2.2.1 rfl ?_
    refine xr_iload_n (n := 25) (j := 1) C dd_X5_lastStepOf_0.2.2.2.2.2.2.2.2.2.2.2.2.2.2.1 rfl rfl ?_
    obtain ⟨x_6, hx_6, hR⟩ := yf_b hR
    refine xr_callSp (n := 28) (As := [.int oy3, .int i1]) (rest := [.int (obt - 1)]) C (kX5_placeOf l D cy (i1 := oy3) (i2 := i1) hx_6) mX5_placeOf u_501 u_502 2 [] [0, 1] rfl (by decide +kernel) rfl rfl rfl rfl (Nat.le_of_ble_eq_true rfl) (Nat.le_of_ble_eq_true rfl) (Nat.le_of_ble_eq_true rfl) (Nat.le_of_ble_eq_true rfl) (Nat.le_of_ble_eq_true rfl) dd_X5_lastStepOf_0.2.2.2.2.2.2.2.2.2.2.2.2.2.2.2.1 rfl (fun _ _ hp => hp.2) (fun v_7 hp_9 => ?_)
    obtain ⟨rfl, -⟩ := hp_9
    refine xr_st (st' := [.int x_6, .int (obt - 1)]) rfl ?_
    refine xr_isub (n := 29) C dd_X5_lastStepOf_1.1 rfl ?_
    refine xr_aload_n (n := 30) (j := 0) C dd_X5_lastStepOf_1.2.1 rfl rfl ?_
    refine xr_get (n := 33) C 0 rfl rfl 1 (by decide) in_X5 u_249 rfl (v := .ref oy) rfl dd_X5_lastStepOf_1.2.2.1 rfl ?_
    refine xr_getN (n := 36) C 1 rfl rfl 4 (by decide) in_X2 RX6 (List.mem_of_getElem? (i := 33) rfl) rfl (v := .int oy4) rfl dd_X5_lastStepOf_1.2.2.2.1 rfl ?_
    refine xr_iload_n (n := 37) (j := 2) C dd_X5_lastStepOf_1.2.2.2.2.1 rfl rfl ?_
    obtain ⟨x_10, hx_10, hR⟩ := yf_b hR
    refine xr_callSp (n := 40) (As := [.int oy4, .int i2]) (rest := [.int ((obt - 1) - x_6)]) C (kX5_placeOf l D cy (i1 := oy4) (i2 := i2) hx_10) mX5_placeOf u_501 u_502 2 [] [0, 1] rfl (by decide +kernel) rfl rfl rfl rfl (Nat.le_of_ble_eq_true rfl) (Nat.le_of_ble_eq_true rfl) (Nat.le_of_ble_eq_true rfl) (Nat.le_of_ble_eq_true rfl) (Nat.le_of_ble_eq_true rfl) dd_X5_lastStepOf_1.2.2.2.2.2.1 rfl (fun _ _ hp => hp.2) (fun v_11 hp_13 => ?_)
    obtain ⟨rfl, -⟩ := hp_13
    refine xr_st (st' := [.int x_10, .int ((obt - 1) - x_6)]) rfl ?_
    refine xr_isub (n := 41) C dd_X5_lastStepOf_1.2.2.2.2.2.2.1 rfl ?_
    refine xr_istore_n (n := 42) C [(3, .int (((obt - 1) - x_6) - x_10)), (0, .ref o), (1, .int i1), (2, .int i2)] dd_X5_lastStepOf_1.2.2.2.2.2.2.2.1 (by decide) rfl rfl ?_
    refine xr_iload_n (n := 43) (j := 0) C dd_X5_lastStepOf_1.2.2.2.2.2.2.2.2.1 rfl rfl ?_
    refine xr_if_lt (tgt := 61) (n := 46) C dd_X5_lastStepOf_1.2.2.2.2.2.2.2.2.2.1 rfl rfl (fun c_14 => ?_) (fun c_14 => ?_)
    · replace hR := yf_t c_14 hR
      refine xr_iconst (n := 62) (v := -1) C dd_X5_lastStepOf_2.2.1 rfl rfl ?_
      obtain rfl := Option.some.inj hR
      exact ret (-1) ⟨rfl, rfl⟩ (Nat.le_of_ble_eq_true rfl) (Nat.le_of_ble_eq_true rfl) dd_X5_lastStepOf_2.2.2.1
    · replace hR := yf_f c_14 hR
      refine xr_iload_n (n := 47) (j := 0) C dd_X5_lastStepOf_1.2.2.2.2.2.2.2.2.2.2.1 rfl rfl ?_
      refine xr_aload_n (n := 48) (j := 1) C dd_X5_lastStepOf_1.2.2.2.2.2.2.2.2.2.2.2.1 rfl rfl ?_
      refine xr_get (n := 51) C 0 rfl rfl 1 (by decide) in_X5 u_249 rfl (v := .ref oy) rfl dd_X5_lastStepOf_1.2.2.2.2.2.2.2.2.2.2.2.2.1 rfl ?_
      refine xr_getN (n := 54) C 1 rfl rfl 2 (by decide) in_X2 RX6 (List.mem_of_getElem? (i := 29) rfl) rfl (v := .int oy2) rfl dd_X5_lastStepOf_1.2.2.2.2.2.2.2.2.2.2.2.2.2.1 rfl ?_
      refine xr_icmp_ge (tgt := 61) (n := 57) C dd_X5_lastStepOf_1.2.2.2.2.2.2.2.2.2.2.2.2.2.2.1 rfl rfl (fun c_15 => ?_) (fun c_15 => ?_)
      · replace hR := yf_t c_15 hR
        refine xr_iconst (n := 62) (v := -1) C dd_X5_lastStepOf_2.2.1 rfl rfl ?_
        obtain rfl := Option.some.inj hR
        exact ret (-1) ⟨rfl, rfl⟩ (Nat.le_of_ble_eq_true rfl) (Nat.le_of_ble_eq_true rfl) dd_X5_lastStepOf_2.2.2.1
      · replace hR := yf_f c_15 hR
        refine xr_iload_n (n := 58) (j := 0) C dd_X5_lastStepOf_1.2.2.2.2.2.2.2.2.2.2.2.2.2.2.2.1 rfl rfl ?_
        refine xr_goto (tgt := 62) C dd_X5_lastStepOf_2.1 rfl ?_
        obtain rfl := Option.some.inj hR
        exact ret (((obt - 1) - x_6) - x_10) ⟨rfl, rfl⟩ (Nat.le_of_ble_eq_true rfl) (Nat.le_of_ble_eq_true rfl) dd_X5_lastStepOf_2.2.2.1
  · replace hR := yf_t c_5 hR
    refine xr_iconst (n := 10) (v := -1) C dd_X5_lastStepOf_0.2.2.2.2.2.1 rfl rfl ?_
    obtain rfl := Option.some.inj hR
    exact ret (-1) ⟨rfl, rfl⟩ (Nat.le_of_ble_eq_true rfl) (Nat.le_of_ble_eq_true rfl) dd_X5_lastStepOf_0.2.2.2.2.2.2.1
