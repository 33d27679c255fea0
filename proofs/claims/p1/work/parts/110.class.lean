theorem u_444 : Cond.methodLink RX5 172 yJ9_max_7cf53 ∈ yU := yu_tables_1_2 148 (by decide +kernel) (by decide +kernel)
theorem u_428 : Cond.code yX5_takenInTile cX5_takenInTile 4 (some .int) ∈ yU := yu_tables_1_2 132 (by decide +kernel) (by decide +kernel)
theorem u_455 : Cond.methodLink RX5 175 yX2_countTiles ∈ yU := yu_tables_1_2 159 (by decide +kernel) (by decide +kernel)
theorem u_450 : Cond.code yX5_isUnfinished cX5_isUnfinished 1 (some .boolean) ∈ yU := yu_tables_1_2 154 (by decide +kernel) (by decide +kernel)
theorem u_677 : Cond.code yX6_isOperand cX6_isOperand 1 (some .boolean) ∈ yU := yu_tables_1_3 141 (by decide +kernel) (by decide +kernel)
theorem u_57 : Cond.initialized RX6 ∈ yU := yu_tables_1_1 1 (by decide +kernel) (by decide +kernel)
theorem u_732 : Cond.code yX6_isOnMesh cX6_isOnMesh 2 (some .boolean) ∈ yU := yu_tables_1_3 196 (by decide +kernel) (by decide +kernel)
theorem u_289 : Cond.fieldLink RX6 10 "Pulsemesh" "told" "LPulsemesh$Job;" ∈ yU := yu_tables_1_1 233 (by decide +kernel) (by decide +kernel)
theorem u_639 : Cond.methodLink RX6 54 yX1_countOperands ∈ yU := yu_tables_1_3 103 (by decide +kernel) (by decide +kernel)
theorem u_640 : Cond.instanceMethod yX1_countOperands ∈ yU := yu_tables_1_3 104 (by decide +kernel) (by decide +kernel)
theorem u_641 : Cond.selects RX1 yX1_countOperands yX1_countOperands ∈ yU := yu_tables_1_3 105 (by decide +kernel) (by decide +kernel)
theorem u_643 : Cond.methodLink RX6 58 yX1_reshape ∈ yU := yu_tables_1_3 107 (by decide +kernel) (by decide +kernel)
theorem u_644 : Cond.instanceMethod yX1_reshape ∈ yU := yu_tables_1_3 108 (by decide +kernel) (by decide +kernel)
theorem u_645 : Cond.selects RX1 yX1_reshape yX1_reshape ∈ yU := yu_tables_1_3 109 (by decide +kernel) (by decide +kernel)
theorem u_570 : Cond.code yX6_shape cX6_shape 5 (some .int) ∈ yU := yu_tables_1_3 34 (by decide +kernel) (by decide +kernel)
theorem u_675 : Cond.methodLink RX6 74 yX6_isOperand ∈ yU := yu_tables_1_3 139 (by decide +kernel) (by decide +kernel)
theorem u_676 : Cond.static yX6_isOperand ∈ yU := yu_tables_1_3 140 (by decide +kernel) (by decide +kernel)
theorem u_492 : Cond.methodLink RX6 84 yX4_get ∈ yU := yu_tables_1_2 196 (by decide +kernel) (by decide +kernel)
theorem u_679 : Cond.methodLink RX6 90 yX4_set ∈ yU := yu_tables_1_3 143 (by decide +kernel) (by decide +kernel)
theorem u_658 : Cond.code yX6_left cX6_left 5 (some .int) ∈ yU := yu_tables_1_3 122 (by decide +kernel) (by decide +kernel)
theorem u_571 : Cond.classLink RX6 47 "java/lang/IllegalArgumentException" ∈ yU := yu_tables_1_3 35 (by decide +kernel) (by decide +kernel)
theorem u_70 : Cond.initialized "java/lang/IllegalArgumentException" ∈ yU := yu_tables_1_1 14 (by decide +kernel) (by decide +kernel)
theorem u_659 : Cond.classLink RX6 69 "java/lang/IndexOutOfBoundsException" ∈ yU := yu_tables_1_3 123 (by decide +kernel) (by decide +kernel)
theorem u_71 : Cond.initialized "java/lang/IndexOutOfBoundsException" ∈ yU := yu_tables_1_1 15 (by decide +kernel) (by decide +kernel)
theorem ytb_0 : (∀ w ∈ (vx_atS RX6 51 "java/lang/IllegalArgumentException" yNames).filter goodWord, w ∈ yU) ∧ (∀ w ∈ (vx_atS RX6 51 "java/lang/IllegalArgumentException" yNames).filter (fun w => !goodWord w), w ∈ xn_nw) ∧ ∀ w ∈ Cond.classLink RX6 47 "java/lang/IllegalArgumentException" :: Cond.initialized "java/lang/IllegalArgumentException" :: vx_atS RX6 51 "java/lang/IllegalArgumentException" yNames, vx_ot w = true := ⟨yt_good (by decide +kernel), by decide +kernel, by decide +kernel⟩
theorem yt_X6_49 : yT RX6 "java/lang/IllegalArgumentException" "r and c are 1 to 8, k is 1 to 6" 47 49 51 := ⟨by decide +kernel, u_571, u_70, by decide +kernel, ytb_0⟩
theorem ytb_1 : (∀ w ∈ (vx_atS RX6 73 "java/lang/IndexOutOfBoundsException" yNames).filter goodWord, w ∈ yU) ∧ (∀ w ∈ (vx_atS RX6 73 "java/lang/IndexOutOfBoundsException" yNames).filter (fun w => !goodWord w), w ∈ xn_nw) ∧ ∀ w ∈ Cond.classLink RX6 69 "java/lang/IndexOutOfBoundsException" :: Cond.initialized "java/lang/IndexOutOfBoundsException" :: vx_atS RX6 73 "java/lang/IndexOutOfBoundsException" yNames, vx_ot w = true := ⟨yt_good (by decide +kernel), by decide +kernel, by decide +kernel⟩
theorem yt_X6_71 : yT RX6 "java/lang/IndexOutOfBoundsException" "A has no such row or column" 69 71 73 := ⟨by decide +kernel, u_659, u_71, by decide +kernel, ytb_1⟩
theorem yt_X6_78 : yT RX6 "java/lang/IllegalArgumentException" "an operand is -9 to 9" 47 78 51 := ⟨by decide +kernel, u_571, u_70, by decide +kernel, ytb_0⟩
theorem dd_X5_takenInTile_0 : dk_R cX5_takenInTile [(0, .aload_n 0, 1), (1, .invokevirtual 147, 3), (4, .ifCond .ne 5, 3), (7, .iconst 0, 1), (8, .ireturn, 1), (9, .iconst 0, 1), (10, .istore_n 1, 1), (11, .iconst 0, 1), (12, .istore_n 2, 1), (13, .iload_n 2, 1), (14, .aload_n 0, 1), (15, .invokevirtual 104, 3), (18, .if_icmp .ge 50, 3), (21, .iconst 0, 1), (22, .istore_n 3, 1), (23, .iload_n 3, 1)] := dk_use _ _ (by decide +kernel)
theorem dd_X5_takenInTile_1 : dk_R cX5_takenInTile [(24, .aload_n 0, 1), (25, .invokevirtual 107, 3), (28, .if_icmp .ge 34, 3), (31, .iload_n 1, 1), (32, .iconst 0, 1), (33, .aload_n 0, 1), (34, .getfield 21, 3), (37, .getfield 110, 3), (40, .aload_n 0, 1), (41, .getfield 38, 3), (44, .iload_n 2, 1), (45, .isub, 1), (46, .iload_n 3, 1), (47, .isub, 1), (48, .invokestatic 92, 3), (51, .invokestatic 172, 3)] := dk_use _ _ (by decide +kernel)
theorem dd_X5_takenInTile_2 : dk_R cX5_takenInTile [(54, .iadd, 1), (55, .istore_n 1, 1), (56, .iinc 3 1, 3), (59, .goto (-36), 3), (62, .iinc 2 1, 3), (65, .goto (-52), 3), (68, .iload_n 1, 1), (69, .ireturn, 1)] := dk_use _ _ (by decide +kernel)
def fX5_takenInTile (ofr : Int32) (ofc : Int32) (obt : Int32) (obl : Int32) (oy0 : Int32) (oy1 : Int32) (oy2 : Int32) (oy5 : Int32) (oy6 : Int32) : Option (Int32) := ((fX5_runs obl).bind fun x_1 => (if x_1 = 0 then some 0 else ((wl (S := Int32 × Int32) (B := Int32 × Int32) (fun s_6 => ((fX5_tileRows ofr oy0 oy5).bind fun x_7 => (if x_7 ≤ s_6.2 then some (.inr (s_6.1, s_6.2)) else ((wl (S := Int32 × Int32) (B := Int32 × Int32) (fun s_13 => ((fX5_tileColumns ofc oy1 oy6).bind fun x_14 => (if x_14 ≤ s_13.2 then some (.inr (s_13.1, s_13.2)) else (ylet (s_13.1 + (xn_max 0 (xn_min oy2 ((obt - s_6.2) - s_13.2))) : Int32) fun y_20 => some (.inl (y_20, s_13.2 + 1)))))) yFuel (s_6.1, 0)).bind fun b_13 => some (.inl (b_13.1, s_6.2 + 1)))))) yFuel (0, 0)).bind fun b_6 => some b_6.1)))
abbrev hX5_takenInTile : Cond := .code yX5_takenInTile cX5_takenInTile 4 (some .int)
theorem mX5_takenInTile : yM yX5_takenInTile hX5_takenInTile 0 := ⟨u_428, u_62, by decide +kernel, by decide +kernel, by decide +kernel⟩
set_option maxHeartbeats 4000000 in
set_option maxRecDepth 100000 in
theorem kX5_takenInTile (l : Launch) (D : va_G) (cy : Nat → ClassId) (o : Nat) (oj : Nat) (oy : Nat) (osk : Int32) (oti : Int32) (ofr : Int32) (ofc : Int32) (obt : Int32) (obl : Int32) (obe : Int32) (ose : Int32) (otk : Int32) (oy0 : Int32) (oy1 : Int32) (oy2 : Int32) (oy3 : Int32) (oy4 : Int32) (oy5 : Int32) (oy6 : Int32) (oy7 : Int32) (oy8 : Int32) (oy9 : Int32) {res : Int32} (hR : fX5_takenInTile ofr ofc obt obl oy0 oy1 oy2 oy5 oy6 = some res) : YM l D cy yX5_takenInTile hX5_takenInTile 2 0 0 [.ref o] [[(o, .inr (7, [.ref oj, .ref oy, .int osk, .int oti, .int ofr, .int ofc, .int obt, .int obl, .int obe, .int ose, .int otk]))], [(oy, .inr (4, [.int oy0, .int oy1, .int oy2, .int oy3, .int oy4, .int oy5, .int oy6, .int oy7, .int oy8, .int oy9]))]] (fun v u => v = some (.int res) ∧ u = [[(o, .inr (7, [.ref oj, .ref oy, .int osk, .int oti, .int ofr, .int ofc, .int obt, .int obl, .int obe, .int ose, .int otk]))], [(oy, .inr (4, [.int oy0, .int oy1, .int oy2, .int oy3, .int oy4, .int oy5, .int oy6, .int oy7, .int oy8, .int oy9]))]]) := by
  unfold fX5_takenInTile at hR
  refine YM.ofI (cc := cX5_takenInTile) (maxL := 4) (ret := (some .int)) (by decide +kernel) rfl (Nat.le_of_ble_eq_true rfl) [(0, .ref o)] rfl rfl (fun p e s m args below meth c A H0 Q C hnm ret => ?_)
  refine xr_aload_n (n := 1) (j := 0) C dd_X5_takenInTile_0.1 rfl rfl ?_
  obtain ⟨x_1, hx_1, hR⟩ := yf_b hR
  refine xr_callVp (n := 4) (As := []) (rest := []) C (kX5_runs l D cy (o := o) (oj := oj) (oy := oy) (osk := osk) (oti := oti) (ofr := ofr) (ofc := ofc) (obt := obt) (obl := obl) (obe := obe) (ose := ose) (otk := otk) hx_1) mX5_runs u_429 u_430 u_431 0 rfl rfl 2 [0] [1] rfl (by decide +kernel) rfl rfl rfl rfl (Nat.le_of_ble_eq_true rfl) (Nat.le_of_ble_eq_true rfl) (Nat.le_of_ble_eq_true rfl) (Nat.le_of_ble_eq_true rfl) (Nat.le_of_ble_eq_true rfl) dd_X5_takenInTile_0.2.1 rfl (fun _ _ hp => hp.2) (fun v_2 hp_4 => ?_)
  obtain ⟨rfl, -⟩ := hp_4
  refine xr_st (st' := [.int x_1]) rfl ?_
  refine xr_if_ne (tgt := 9) (n := 7) C dd_X5_takenInTile_0.2.2.1 rfl rfl (fun c_5 => ?_) (fun c_5 => ?_)
  · replace hR := yf_f c_5 hR
    refine xr_iconst (n := 10) (v := 0) C dd_X5_takenInTile_0.2.2.2.2.2.1 rfl rfl ?_
    refine xr_istore_n (n := 11) C [(1, .int 0), (0, .ref o)] dd_X5_takenInTile_0.2.2.2.2.2.2.1 (by decide) rfl rfl ?_
    refine xr_iconst (n := 12) (v := 0) C dd_X5_takenInTile_0.2.2.2.2.2.2.2.1 rfl rfl ?_
    refine xr_istore_n (n := 13) C [(2, .int 0), (1, .int 0), (0, .ref o)] dd_X5_takenInTile_0.2.2.2.2.2.2.2.2.1 (by decide) rfl rfl ?_
    refine xr_lv (lv' := [(0, .ref o), (1, .int 0), (2, .int 0)]) [2, 1, 0] rfl ?_
    obtain ⟨b_6, hb_6, hR⟩ := yf_b hR
    have K_6 : X p l e (yR 2 0 0) s m args below meth c D A H0 4 Q [[(o, .inr (7, [.ref oj, .ref oy, .int osk, .int oti, .int ofr, .int ofc, .int obt, .int obl, .int obe, .int ose, .int otk]))], [(oy, .inr (4, [.int oy0, .int oy1, .int oy2, .int oy3, .int oy4, .int oy5, .int oy6, .int oy7, .int oy8, .int oy9]))]] 0 0 [(1, .int b_6.1)] 68 [] := by
      refine xr_iload_n (n := 69) (j := 0) C dd_X5_takenInTile_2.2.2.2.2.2.2.1 rfl rfl ?_
      obtain rfl := Option.some.inj hR
      exact ret b_6.1 ⟨rfl, rfl⟩ (Nat.le_of_ble_eq_true rfl) (Nat.le_of_ble_eq_true rfl) dd_X5_takenInTile_2.2.2.2.2.2.2.2.1
    refine y_loop (P := fun (s_6 : Int32 × Int32) => X p l e (yR 2 0 0) s m args below meth c D A H0 4 Q [[(o, .inr (7, [.ref oj, .ref oy, .int osk, .int oti, .int ofr, .int ofc, .int obt, .int obl, .int obe, .int ose, .int otk]))], [(oy, .inr (4, [.int oy0, .int oy1, .int oy2, .int oy3, .int oy4, .int oy5, .int oy6, .int oy7, .int oy8, .int oy9]))]] 0 0 [(0, .ref o), (1, .int s_6.1), (2, .int s_6.2)] 13 []) ?_ _ (0, 0) hb_6
    intro s_6 o_6 ho_6 hk_6 hx_6
    refine xr_iload_n (n := 14) (j := 2) C dd_X5_takenInTile_0.2.2.2.2.2.2.2.2.2.1 rfl rfl ?_
    refine xr_aload_n (n := 15) (j := 0) C dd_X5_takenInTile_0.2.2.2.2.2.2.2.2.2.2.1 rfl rfl ?_
    obtain ⟨x_7, hx_7, ho_6⟩ := yf_b ho_6
    refine xr_callVp (n := 18) (As := []) (rest := [.int s_6.2]) C (kX5_tileRows l D cy (o := o) (oj := oj) (oy := oy) (osk := osk) (oti := oti) (ofr := ofr) (ofc := ofc) (obt := obt) (obl := obl) (obe := obe) (ose := ose) (otk := otk) (oy0 := oy0) (oy1 := oy1) (oy2 := oy2) (oy3 := oy3) (oy4 := oy4) (oy5 := oy5) (oy6 := oy6) (oy7 := oy7) (oy8 := oy8) (oy9 := oy9) hx_7) mX5_tileRows u_433 u_435 u_10 0 rfl rfl 2 [0, 1] [] rfl (by decide +kernel) rfl rfl rfl rfl (Nat.le_of_ble_eq_true rfl) (Nat.le_of_ble_eq_true rfl) (Nat.le_of_ble_eq_true rfl) (Nat.le_of_ble_eq_true rfl) (Nat.le_of_ble_eq_true rfl) dd_X5_takenInTile_0.2.2.2.2.2.2.2.2.2.2.2.1 rfl (fun _ _ hp => hp.2) (fun v_8 hp_10 => ?_)
    obtain ⟨rfl, -⟩ := hp_10
    refine xr_st (st' := [.int x_7, .int s_6.2]) rfl ?_
    refine xr_icmp_ge (tgt := 68) (n := 21) C dd_X5_takenInTile_0.2.2.2.2.2.2.2.2.2.2.2.2.1 rfl rfl (fun c_11 => ?_) (fun c_11 => ?_)
    · replace ho_6 := yf_t c_11 ho_6
      refine xr_lv (lv' := [(1, .int s_6.1)]) [1] rfl ?_
      have e_12 := hx_6 _ (Option.some.inj ho_6).symm
      subst e_12
      exact K_6
    · replace ho_6 := yf_f c_11 ho_6
      refine xr_iconst (n := 22) (v := 0) C dd_X5_takenInTile_0.2.2.2.2.2.2.2.2.2.2.2.2.2.1 rfl rfl ?_
      refine xr_istore_n (n := 23) C [(3, .int 0), (0, .ref o), (1, .int s_6.1), (2, .int s_6.2)] dd_X5_takenInTile_0.2.2.2.2.2.2.2.2.2.2.2.2.2.2.1 (by decide) rfl rfl ?_
      refine xr_lv (lv' := [(0, .ref o), (1, .int s_6.1), (2, .int s_6.2), (3, .int 0)]) [1, 2, 3, 0] rfl ?_
      obtain ⟨b_13, hb_13, ho_6⟩ := yf_b ho_6
      have K_13 : X p l e (yR 2 0 0) s m args below meth c D A H0 4 Q [[(o, .inr (7, [.ref oj, .ref oy, .int osk, .int oti, .int ofr, .int ofc, .int obt, .int obl, .int obe, .int ose, .int otk]))], [(oy, .inr (4, [.int oy0, .int oy1, .int oy2, .int oy3, .int oy4, .int oy5, .int oy6, .int oy7, .int oy8, .int oy9]))]] 0 0 [(0, .ref o), (1, .int b_13.1), (2, .int s_6.2)] 62 [] := by
        refine xr_iinc (j := 2) (v := s_6.2 + 1) (n := 65) C [(2, .int (s_6.2 + 1)), (0, .ref o), (1, .int b_13.1)] dd_X5_takenInTile_2.2.2.2.2.1 rfl rfl (by decide) rfl rfl ?_
        refine xr_goto (tgt := 13) C dd_X5_takenInTile_2.2.2.2.2.2.1 rfl ?_
        refine xr_lv (lv' := [(0, .ref o), (1, .int b_13.1), (2, .int (s_6.2 + 1))]) [1, 2, 0] rfl ?_
        exact hk_6 (b_13.1, s_6.2 + 1) (Option.some.inj ho_6).symm
      refine y_loop (P := fun (s_13 : Int32 × Int32) => X p l e (yR 2 0 0) s m args below meth c D A H0 4 Q [[(o, .inr (7, [.ref oj, .ref oy, .int osk, .int oti, .int ofr, .int ofc, .int obt, .int obl, .int obe, .int ose, .int otk]))], [(oy, .inr (4, [.int oy0, .int oy1, .int oy2, .int oy3, .int oy4, .int oy5, .int oy6, .int oy7, .int oy8, .int oy9]))]] 0 0 [(0, .ref o), (1, .int s_13.1), (2, .int s_6.2), (3, .int s_13.2)] 23 []) ?_ _ (s_6.1, 0) hb_13
      intro s_13 o_13 ho_13 hk_13 hx_13
      refine xr_iload_n (n := 24) (j := 3) C dd_X5_takenInTile_0.2.2.2.2.2.2.2.2.2.2.2.2.2.2.2.1 rfl rfl ?_
      refine xr_aload_n (n := 25) (j := 0) C dd_X5_takenInTile_1.1 rfl rfl ?_
      obtain ⟨x_14, hx_14, ho_13⟩ := yf_b ho_13
      refine xr_callVp (n := 28) (As := []) (rest := [.int s_13.2]) C (kX5_tileColumns l D cy (o := o) (oj := oj) (oy := oy) (osk := osk) (oti := oti) (ofr := ofr) (ofc := ofc) (obt := obt) (obl := obl) (obe := obe) (ose := ose) (otk := otk) (oy0 := oy0) (oy1 := oy1) (oy2 := oy2) (oy3 := oy3) (oy4 := oy4) (oy5 := oy5) (oy6 := oy6) (oy7 := oy7) (oy8 := oy8) (oy9 := oy9) hx_14) mX5_tileColumns u_440 u_442 u_11 0 rfl rfl 2 [0, 1] [] rfl (by decide +kernel) rfl rfl rfl rfl (Nat.le_of_ble_eq_true rfl) (Nat.le_of_ble_eq_true rfl) (Nat.le_of_ble_eq_true rfl) (Nat.le_of_ble_eq_true rfl) (Nat.le_of_ble_eq_true rfl) dd_X5_takenInTile_1.2.1 rfl (fun _ _ hp => hp.2) (fun v_15 hp_17 => ?_)
      obtain ⟨rfl, -⟩ := hp_17
      refine xr_st (st' := [.int x_14, .int s_13.2]) rfl ?_
      refine xr_icmp_ge (tgt := 62) (n := 31) C dd_X5_takenInTile_1.2.2.1 rfl rfl (fun c_18 => ?_) (fun c_18 => ?_)
      · replace ho_13 := yf_t c_18 ho_13
        refine xr_lv (lv' := [(0, .ref o), (1, .int s_13.1), (2, .int s_6.2)]) [0, 1, 2] rfl ?_
        have e_19 := hx_13 _ (Option.some.inj ho_13).symm
        subst e_19
        exact K_13
      · replace ho_13 := yf_f c_18 ho_13
        refine xr_iload_n (n := 32) (j := 1) C dd_X5_takenInTile_1.2.2.2.1 rfl rfl ?_
        refine xr_iconst (n := 33) (v := 0) C dd_X5_takenInTile_1.2.2.2.2.1 rfl rfl ?_
        refine xr_aload_n (n := 34) (j := 0) C dd_X5_takenInTile_1.2.2.2.2.2.1 rfl rfl ?_
        refine xr_get (n := 37) C 0 rfl rfl 1 (by decide) in_X5 u_249 rfl (v := .ref oy) rfl dd_X5_takenInTile_1.2.2.2.2.2.2.1 rfl ?_
        refine xr_getN (n := 40) C 1 rfl rfl 2 (by decide) in_X2 RX6 (List.mem_of_getElem? (i := 29) rfl) rfl (v := .int oy2) rfl dd_X5_takenInTile_1.2.2.2.2.2.2.2.1 rfl ?_
        refine xr_aload_n (n := 41) (j := 0) C dd_X5_takenInTile_1.2.2.2.2.2.2.2.2.1 rfl rfl ?_
        refine xr_get (n := 44) C 0 rfl rfl 6 (by decide) in_X5 u_255 rfl (v := .int obt) rfl dd_X5_takenInTile_1.2.2.2.2.2.2.2.2.2.1 rfl ?_
        refine xr_iload_n (n := 45) (j := 2) C dd_X5_takenInTile_1.2.2.2.2.2.2.2.2.2.2.1 rfl rfl ?_
        refine xr_isub (n := 46) C dd_X5_takenInTile_1.2.2.2.2.2.2.2.2.2.2.2.1 rfl ?_
        refine xr_iload_n (n := 47) (j := 3) C dd_X5_takenInTile_1.2.2.2.2.2.2.2.2.2.2.2.2.1 rfl rfl ?_
        refine xr_isub (n := 48) C dd_X5_takenInTile_1.2.2.2.2.2.2.2.2.2.2.2.2.2.1 rfl ?_
        refine xr_mmin (n := 51) C u_437 u_438 u_74 u_439 (Nat.le_of_ble_eq_true rfl) (Nat.le_of_ble_eq_true rfl) (Nat.le_of_ble_eq_true rfl) (Nat.le_of_ble_eq_true rfl) dd_X5_takenInTile_1.2.2.2.2.2.2.2.2.2.2.2.2.2.2.1 rfl ?_
        refine xr_mmax (n := 54) C u_444 u_445 u_74 u_446 (Nat.le_of_ble_eq_true rfl) (Nat.le_of_ble_eq_true rfl) (Nat.le_of_ble_eq_true rfl) (Nat.le_of_ble_eq_true rfl) dd_X5_takenInTile_1.2.2.2.2.2.2.2.2.2.2.2.2.2.2.2.1 rfl ?_
        refine xr_iadd (n := 55) C dd_X5_takenInTile_2.1 rfl ?_
        obtain ⟨y_20, ey_20, ho_13⟩ := yf_l ho_13
        refine xr_topI ey_20 ?_
        refine xr_istore_n (n := 56) C [(1, .int y_20), (0, .ref o), (2, .int s_6.2), (3, .int s_13.2)] dd_X5_takenInTile_2.2.1 (by decide) rfl rfl ?_
        refine xr_iinc (j := 3) (v := s_13.2 + 1) (n := 59) C [(3, .int (s_13.2 + 1)), (1, .int y_20), (0, .ref o), (2, .int s_6.2)] dd_X5_takenInTile_2.2.2.1 rfl rfl (by decide) rfl rfl ?_
        refine xr_goto (tgt := 23) C dd_X5_takenInTile_2.2.2.2.1 rfl ?_
        refine xr_lv (lv' := [(0, .ref o), (1, .int y_20), (2, .int s_6.2), (3, .int (s_13.2 + 1))]) [2, 1, 3, 0] rfl ?_
        exact hk_13 (y_20, s_13.2 + 1) (Option.some.inj ho_13).symm
  · replace hR := yf_t c_5 hR
    refine xr_iconst (n := 8) (v := 0) C dd_X5_takenInTile_0.2.2.2.1 rfl rfl ?_
    obtain rfl := Option.some.inj hR
    exact ret 0 ⟨rfl, rfl⟩ (Nat.le_of_ble_eq_true rfl) (Nat.le_of_ble_eq_true rfl) dd_X5_takenInTile_0.2.2.2.2.1
theorem dd_X5_isUnfinished_0 : dk_R cX5_isUnfinished [(0, .aload_n 0, 1), (1, .invokevirtual 147, 3), (4, .ifCond .eq 28, 3), (7, .aload_n 0, 1), (8, .getfield 38, 3), (11, .aload_n 0, 1), (12, .invokevirtual 117, 3), (15, .if_icmp .ge 21, 3), (18, .aload_n 0, 1), (19, .getfield 29, 3), (22, .aload_n 0, 1), (23, .getfield 21, 3), (26, .invokevirtual 175, 3), (29, .if_icmp .ge 7, 3), (32, .iconst 1, 1), (33, .goto 4, 3)] := dk_use _ _ (by decide +kernel)
theorem dd_X5_isUnfinished_1 : dk_R cX5_isUnfinished [(36, .iconst 0, 1), (37, .ireturn, 1)] := dk_use _ _ (by decide +kernel)
def fX5_isUnfinished (oti : Int32) (ofr : Int32) (ofc : Int32) (obt : Int32) (obl : Int32) (oy0 : Int32) (oy1 : Int32) (oy2 : Int32) (oy5 : Int32) (oy6 : Int32) (oy7 : Int32) (oy8 : Int32) : Option (Int32) := ((fX5_runs obl).bind fun x_1 => (if x_1 = 0 then some 1 else ((fX5_beatsOfTile ofr ofc oy0 oy1 oy2 oy5 oy6).bind fun x_6 => (if x_6 ≤ obt then some 0 else ((fX2_countTiles oy7 oy8).bind fun x_11 => (if x_11 ≤ oti then some 0 else some 1))))))
abbrev hX5_isUnfinished : Cond := .code yX5_isUnfinished cX5_isUnfinished 1 (some .boolean)
theorem mX5_isUnfinished : yM yX5_isUnfinished hX5_isUnfinished 0 := ⟨u_450, u_62, by decide +kernel, by decide +kernel, by decide +kernel⟩
set_option maxHeartbeats 4000000 in
set_option maxRecDepth 100000 in
theorem kX5_isUnfinished (l : Launch) (D : va_G) (cy : Nat → ClassId) (o : Nat) (oj : Nat) (oy : Nat) (osk : Int32) (oti : Int32) (ofr : Int32) (ofc : Int32) (obt : Int32) (obl : Int32) (obe : Int32) (ose : Int32) (otk : Int32) (oy0 : Int32) (oy1 : Int32) (oy2 : Int32) (oy3 : Int32) (oy4 : Int32) (oy5 : Int32) (oy6 : Int32) (oy7 : Int32) (oy8 : Int32) (oy9 : Int32) {res : Int32} (hR : fX5_isUnfinished oti ofr ofc obt obl oy0 oy1 oy2 oy5 oy6 oy7 oy8 = some res) : YM l D cy yX5_isUnfinished hX5_isUnfinished 3 0 0 [.ref o] [[(o, .inr (7, [.ref oj, .ref oy, .int osk, .int oti, .int ofr, .int ofc, .int obt, .int obl, .int obe, .int ose, .int otk]))], [(oy, .inr (4, [.int oy0, .int oy1, .int oy2, .int oy3, .int oy4, .int oy5, .int oy6, .int oy7, .int oy8, .int oy9]))]] (fun v u => v = some (.int res) ∧ u = [[(o, .inr (7, [.ref oj, .ref oy, .int osk, .int oti, .int ofr, .int ofc, .int obt, .int obl, .int obe, .int ose, .int otk]))], [(oy, .inr (4, [.int oy0, .int oy1, .int oy2, .int oy3, .int oy4, .int oy5, .int oy6, .int oy7, .int oy8, .int oy9]))]]) := by
  unfold fX5_isUnfinished at hR
  refine YM.ofZ (cc := cX5_isUnfinished) (maxL := 1) (ret := (some .boolean)) (by decide +kernel) rfl (Nat.le_of_ble_eq_true rfl) [(0, .ref o)] rfl .boolean rfl (fun p e s m args below meth c A H0 Q C hnm ret => ?_)
  refine xr_aload_n (n := 1) (j := 0) C dd_X5_isUnfinished_0.1 rfl rfl ?_
  obtain ⟨x_1, hx_1, hR⟩ := yf_b hR
  refine xr_callVp (n := 4) (As := []) (rest := []) C (kX5_runs l D cy (o := o) (oj := oj) (oy := oy) (osk := osk) (oti := oti) (ofr := ofr) (ofc := ofc) (obt := obt) (obl := obl) (obe := obe) (ose := ose) (otk := otk) hx_1) mX5_runs u_429 u_430 u_431 0 rfl rfl 2 [0] [1] rfl (by decide +kernel) rfl rfl rfl rfl (Nat.le_of_ble_eq_true rfl) (Nat.le_of_ble_eq_true rfl) (Nat.le_of_ble_eq_true rfl) (Nat.le_of_ble_eq_true rfl) (Nat.le_of_ble_eq_true rfl) dd_X5_isUnfinished_0.2.1 rfl (fun _ _ hp => hp.2) (fun v_2 hp_4 => ?_)
  obtain ⟨rfl, -⟩ := hp_4
  refine xr_st (st' := [.int x_1]) rfl ?_
  refine xr_if_eq (tgt := 32) (n := 7) C dd_X5_isUnfinished_0.2.2.1 rfl rfl (fun c_5 => ?_) (fun c_5 => ?_)
  · replace hR := yf_t c_5 hR
    refine xr_iconst (n := 33) (v := 1) C dd_X5_isUnfinished_0.2.2.2.2.2.2.2.2.2.2.2.2.2.2.1 rfl rfl ?_
    refine xr_goto (tgt := 37) C dd_X5_isUnfinished_0.2.2.2.2.2.2.2.2.2.2.2.2.2.2.2.1 rfl ?_
    obtain rfl := Option.some.inj hR
    exact ret 1 (by decide) ⟨rfl, rfl⟩ (Nat.le_of_ble_eq_true rfl) (Nat.le_of_ble_eq_true rfl) dd_X5_isUnfinished_1.2.1
  · replace hR := yf_f c_5 hR
    refine xr_aload_n (n := 8) (j := 0) C dd_X5_isUnfinished_0.2.2.2.1 rfl rfl ?_
    refine xr_get (n := 11) C 0 rfl rfl 6 (by decide) in_X5 u_255 rfl (v := .int obt) rfl dd_X5_isUnfinished_0.2.2.2.2.1 rfl ?_
    refine xr_aload_n (n := 12) (j := 0) C dd_X5_isUnfinished_0.2.2.2.2.2.1 rfl rfl ?_
    obtain ⟨x_6, hx_6, hR⟩ := yf_b hR
    refine xr_callVp (n := 15) (As := []) (rest := [.int obt]) C (kX5_beatsOfTile l D cy (o := o) (oj := oj) (oy := oy) (osk := osk) (oti := oti) (ofr := ofr) (ofc := ofc) (obt := obt) (obl := obl) (obe := obe) (ose := ose) (otk := otk) (oy0 := oy0) (oy1 := oy1) (oy2 := oy2) (oy3 := oy3) (oy4 := oy4) (oy5 := oy5) (oy6 := oy6) (oy7 := oy7) (oy8 := oy8) (oy9 := oy9) hx_6) mX5_beatsOfTile u_451 u_453 u_12 0 rfl rfl 2 [0, 1] [] rfl (by decide +kernel) rfl rfl rfl rfl (Nat.le_of_ble_eq_true rfl) (Nat.le_of_ble_eq_true rfl) (Nat.le_of_ble_eq_true rfl) (Nat.le_of_ble_eq_true rfl) (Nat.le_of_ble_eq_true rfl) dd_X5_isUnfinished_0.2.2.2.2.2.2.1 rfl (fun _ _ hp => hp.2) (fun v_7 hp_9 => ?_)
    obtain ⟨rfl, -⟩ := hp_9
    refine xr_st (st' := [.int x_6, .int obt]) rfl ?_
    refine xr_icmp_ge (tgt := 36) (n := 18) C dd_X5_isUnfinished_0.2.2.2.2.2.2.2.1 rfl rfl (fun c_10 => ?_) (fun c_10 => ?_)
    · replace hR := yf_t c_10 hR
      refine xr_iconst (n := 37) (v := 0) C dd_X5_isUnfinished_1.1 rfl rfl ?_
      obtain rfl := Option.some.inj hR
      exact ret 0 (by decide) ⟨rfl, rfl⟩ (Nat.le_of_ble_eq_true rfl) (Nat.le_of_ble_eq_true rfl) dd_X5_isUnfinished_1.2.1
    · replace hR := yf_f c_10 hR
      refine xr_aload_n (n := 19) (j := 0) C dd_X5_isUnfinished_0.2.2.2.2.2.2.2.2.1 rfl rfl ?_
      refine xr_get (n := 22) C 0 rfl rfl 3 (by decide) in_X5 u_251 rfl (v := .int oti) rfl dd_X5_isUnfinished_0.2.2.2.2.2.2.2.2.2.1 rfl ?_
      refine xr_aload_n (n := 23) (j := 0) C dd_X5_isUnfinished_0.2.2.2.2.2.2.2.2.2.2.1 rfl rfl ?_
      refine xr_get (n := 26) C 0 rfl rfl 1 (by decide) in_X5 u_249 rfl (v := .ref oy) rfl dd_X5_isUnfinished_0.2.2.2.2.2.2.2.2.2.2.2.1 rfl ?_
      obtain ⟨x_11, hx_11, hR⟩ := yf_b hR
      refine xr_callVp (n := 29) (As := []) (rest := [.int oti]) C (kX2_countTiles l D cy (y := oy) (y0 := oy0) (y1 := oy1) (y2 := oy2) (y3 := oy3) (y4 := oy4) (y5 := oy5) (y6 := oy6) (y7 := oy7) (y8 := oy8) (y9 := oy9) hx_11) mX2_countTiles u_455 u_367 u_368 1 rfl rfl 2 [1] [0] rfl (by decide +kernel) rfl rfl rfl rfl (Nat.le_of_ble_eq_true rfl) (Nat.le_of_ble_eq_true rfl) (Nat.le_of_ble_eq_true rfl) (Nat.le_of_ble_eq_true rfl) (Nat.le_of_ble_eq_true rfl) dd_X5_isUnfinished_0.2.2.2.2.2.2.2.2.2.2.2.2.1 rfl (fun _ _ hp => hp.2) (fun v_12 hp_14 => ?_)
      obtain ⟨rfl, -⟩ := hp_14
      refine xr_st (st' := [.int x_11, .int oti]) rfl ?_
      refine xr_icmp_ge (tgt := 36) (n := 32) C dd_X5_isUnfinished_0.2.2.2.2.2.2.2.2.2.2.2.2.2.1 rfl rfl (fun c_15 => ?_) (fun c_15 => ?_)
      · replace hR := yf_t c_15 hR
        refine xr_iconst (n := 37) (v := 0) C dd_X5_isUnfinished_1.1 rfl rfl ?_
        obtain rfl := Option.some.inj hR
        exact ret 0 (by decide) ⟨rfl, rfl⟩ (Nat.le_of_ble_eq_true rfl) (Nat.le_of_ble_eq_true rfl) dd_X5_isUnfinished_1.2.1
      · replace hR := yf_f c_15 hR
        refine xr_iconst (n := 33) (v := 1) C dd_X5_isUnfinished_0.2.2.2.2.2.2.2.2.2.2.2.2.2.2.1 rfl rfl ?_
        refine xr_goto (tgt := 37) C dd_X5_isUnfinished_0.2.2.2.2.2.2.2.2.2.2.2.2.2.2.2.1 rfl ?_
        obtain rfl := Option.some.inj hR
        exact ret 1 (by decide) ⟨rfl, rfl⟩ (Nat.le_of_ble_eq_true rfl) (Nat.le_of_ble_eq_true rfl) dd_X5_isUnfinished_1.2.1
theorem dd_X6_isOperand_0 : dk_R cX6_isOperand [(0, .iload_n 0, 1), (1, .bipush (-9), 2), (3, .if_icmp .lt 13, 3), (6, .iload_n 0, 1), (7, .bipush 9, 2), (9, .if_icmp .gt 7, 3), (12, .iconst 1, 1), (13, .goto 4, 3), (16, .iconst 0, 1), (17, .ireturn, 1)] := dk_use _ _ (by decide +kernel)
def fX6_isOperand (i1 : Int32) : Option (Int32) := (if i1 < (-9) then some 0 else (if 9 < i1 then some 0 else some 1))
abbrev hX6_isOperand : Cond := .code yX6_isOperand cX6_isOperand 1 (some .boolean)
theorem mX6_isOperand : yM yX6_isOperand hX6_isOperand 1 := ⟨u_677, u_57, by decide +kernel, by decide +kernel, by decide +kernel⟩
set_option maxHeartbeats 4000000 in
set_option maxRecDepth 100000 in
theorem kX6_isOperand (l : Launch) (D : va_G) (cy : Nat → ClassId) (i1 : Int32) {res : Int32} (hR : fX6_isOperand i1 = some res) : YM l D cy yX6_isOperand hX6_isOperand 1 0 0 [.int i1] [] (fun v u => v = some (.int res) ∧ u = []) := by
  unfold fX6_isOperand at hR
  refine YM.ofZ (cc := cX6_isOperand) (maxL := 1) (ret := (some .boolean)) (by decide +kernel) rfl (Nat.le_of_ble_eq_true rfl) [(0, .int i1)] rfl .boolean rfl (fun p e s m args below meth c A H0 Q C hnm ret => ?_)
  refine xr_iload_n (n := 1) (j := 0) C dd_X6_isOperand_0.1 rfl rfl ?_
  refine xr_bipush (n := 3) (v := -9) C dd_X6_isOperand_0.2.1 rfl rfl ?_
  refine xr_icmp_lt (tgt := 16) (n := 6) C dd_X6_isOperand_0.2.2.1 rfl rfl (fun c_1 => ?_) (fun c_1 => ?_)
  · replace hR := yf_t c_1 hR
    refine xr_iconst (n := 17) (v := 0) C dd_X6_isOperand_0.2.2.2.2.2.2.2.2.1 rfl rfl ?_
    obtain rfl := Option.some.inj hR
    exact ret 0 (by decide) ⟨rfl, rfl⟩ (Nat.le_of_ble_eq_true rfl) (Nat.le_of_ble_eq_true rfl) dd_X6_isOperand_0.2.2.2.2.2.2.2.2.2.1
  · replace hR := yf_f c_1 hR
    refine xr_iload_n (n := 7) (j := 0) C dd_X6_isOperand_0.2.2.2.1 rfl rfl ?_
    refine xr_bipush (n := 9) (v := 9) C dd_X6_isOperand_0.2.2.2.2.1 rfl rfl ?_
    refine xr_icmp_gt (tgt := 16) (n := 12) C dd_X6_isOperand_0.2.2.2.2.2.1 rfl rfl (fun c_2 => ?_) (fun c_2 => ?_)
    · replace hR := yf_t c_2 hR
      refine xr_iconst (n := 17) (v := 0) C dd_X6_isOperand_0.2.2.2.2.2.2.2.2.1 rfl rfl ?_
      obtain rfl := Option.some.inj hR
      exact ret 0 (by decide) ⟨rfl, rfl⟩ (Nat.le_of_ble_eq_true rfl) (Nat.le_of_ble_eq_true rfl) dd_X6_isOperand_0.2.2.2.2.2.2.2.2.2.1
    · replace hR := yf_f c_2 hR
      refine xr_iconst (n := 13) (v := 1) C dd_X6_isOperand_0.2.2.2.2.2.2.1 rfl rfl ?_
      refine xr_goto (tgt := 17) C dd_X6_isOperand_0.2.2.2.2.2.2.2.1 rfl ?_
      obtain rfl := Option.some.inj hR
      exact ret 1 (by decide) ⟨rfl, rfl⟩ (Nat.le_of_ble_eq_true rfl) (Nat.le_of_ble_eq_true rfl) dd_X6_isOperand_0.2.2.2.2.2.2.2.2.2.1
theorem dd_X6_isOnMesh_0 : dk_R cX6_isOnMesh [(0, .iload_n 0, 1), (1, .ifCond .lt 21, 3), (4, .iload_n 0, 1), (5, .iconst 5, 1), (6, .if_icmp .ge 16, 3), (9, .iload_n 1, 1), (10, .ifCond .lt 12, 3), (13, .iload_n 1, 1), (14, .iconst 5, 1), (15, .if_icmp .ge 7, 3), (18, .iconst 1, 1), (19, .goto 4, 3), (22, .iconst 0, 1), (23, .ireturn, 1)] := dk_use _ _ (by decide +kernel)
def fX6_isOnMesh (i1 : Int32) (i2 : Int32) : Option (Int32) := (if i1 < 0 then some 0 else (if 5 ≤ i1 then some 0 else (if i2 < 0 then some 0 else (if 5 ≤ i2 then some 0 else some 1))))
abbrev hX6_isOnMesh : Cond := .code yX6_isOnMesh cX6_isOnMesh 2 (some .boolean)
theorem mX6_isOnMesh : yM yX6_isOnMesh hX6_isOnMesh 2 := ⟨u_732, u_57, by decide +kernel, by decide +kernel, by decide +kernel⟩
set_option maxHeartbeats 4000000 in
set_option maxRecDepth 100000 in
theorem kX6_isOnMesh (l : Launch) (D : va_G) (cy : Nat → ClassId) (i1 : Int32) (i2 : Int32) {res : Int32} (hR : fX6_isOnMesh i1 i2 = some res) : YM l D cy yX6_isOnMesh hX6_isOnMesh 1 0 0 [.int i1, .int i2] [] (fun v u => v = some (.int res) ∧ u = []) := by
  unfold fX6_isOnMesh at hR
  refine YM.ofZ (cc := cX6_isOnMesh) (maxL := 2) (ret := (some .boolean)) (by decide +kernel) rfl (Nat.le_of_ble_eq_true rfl) [(0, .int i1), (1, .int i2)] rfl .boolean rfl (fun p e s m args below meth c A H0 Q C hnm ret => ?_)
  refine xr_iload_n (n := 1) (j := 0) C dd_X6_isOnMesh_0.1 rfl rfl ?_
  refine xr_if_lt (tgt := 22) (n := 4) C dd_X6_isOnMesh_0.2.1 rfl rfl (fun c_1 => ?_) (fun c_1 => ?_)
  · replace hR := yf_t c_1 hR
    refine xr_iconst (n := 23) (v := 0) C dd_X6_isOnMesh_0.2.2.2.2.2.2.2.2.2.2.2.2.1 rfl rfl ?_
    obtain rfl := Option.some.inj hR
    exact ret 0 (by decide) ⟨rfl, rfl⟩ (Nat.le_of_ble_eq_true rfl) (Nat.le_of_ble_eq_true rfl) dd_X6_isOnMesh_0.2.2.2.2.2.2.2.2.2.2.2.2.2.1
  · replace hR := yf_f c_1 hR
    refine xr_iload_n (n := 5) (j := 0) C dd_X6_isOnMesh_0.2.2.1 rfl rfl ?_
    refine xr_iconst (n := 6) (v := 5) C dd_X6_isOnMesh_0.2.2.2.1 rfl rfl ?_
    refine xr_icmp_ge (tgt := 22) (n := 9) C dd_X6_isOnMesh_0.2.2.2.2.1 rfl rfl (fun c_2 => ?_) (fun c_2 => ?_)
    · replace hR := yf_t c_2 hR
      refine xr_iconst (n := 23) (v := 0) C dd_X6_isOnMesh_0.2.2.2.2.2.2.2.2.2.2.2.2.1 rfl rfl ?_
      obtain rfl := Option.some.inj hR
      exact ret 0 (by decide) ⟨rfl, rfl⟩ (Nat.le_of_ble_eq_true rfl) (Nat.le_of_ble_eq_true rfl) dd_X6_isOnMesh_0.2.2.2.2.2.2.2.2.2.2.2.2.2.1
    · replace hR := yf_f c_2 hR
      refine xr_iload_n (n := 10) (j := 1) C dd_X6_isOnMesh_0.2.2.2.2.2.1 rfl rfl ?_
      refine xr_if_lt (tgt := 22) (n := 13) C dd_X6_isOnMesh_0.2.2.2.2.2.2.1 rfl rfl (fun c_3 => ?_) (fun c_3 => ?_)
      · replace hR := yf_t c_3 hR
        refine xr_iconst (n := 23) (v := 0) C dd_X6_isOnMesh_0.2.2.2.2.2.2.2.2.2.2.2.2.1 rfl rfl ?_
        obtain rfl := Option.some.inj hR
        exact ret 0 (by decide) ⟨rfl, rfl⟩ (Nat.le_of_ble_eq_true rfl) (Nat.le_of_ble_eq_true rfl) dd_X6_isOnMesh_0.2.2.2.2.2.2.2.2.2.2.2.2.2.1
      · replace hR := yf_f c_3 hR
        refine xr_iload_n (n := 14) (j := 1) C dd_X6_isOnMesh_0.2.2.2.2.2.2.2.1 rfl rfl ?_
        refine xr_iconst (n := 15) (v := 5) C dd_X6_isOnMesh_0.2.2.2.2.2.2.2.2.1 rfl rfl ?_
        refine xr_icmp_ge (tgt := 22) (n := 18) C dd_X6_isOnMesh_0.2.2.2.2.2.2.2.2.2.1 rfl rfl (fun c_4 => ?_) (fun c_4 => ?_)
        · replace hR := yf_t c_4 hR
          refine xr_iconst (n := 23) (v := 0) C dd_X6_isOnMesh_0.2.2.2.2.2.2.2.2.2.2.2.2.1 rfl rfl ?_
          obtain rfl := Option.some.inj hR
          exact ret 0 (by decide) ⟨rfl, rfl⟩ (Nat.le_of_ble_eq_true rfl) (Nat.le_of_ble_eq_true rfl) dd_X6_isOnMesh_0.2.2.2.2.2.2.2.2.2.2.2.2.2.1
        · replace hR := yf_f c_4 hR
          refine xr_iconst (n := 19) (v := 1) C dd_X6_isOnMesh_0.2.2.2.2.2.2.2.2.2.2.1 rfl rfl ?_
          refine xr_goto (tgt := 23) C dd_X6_isOnMesh_0.2.2.2.2.2.2.2.2.2.2.2.1 rfl ?_
          obtain rfl := Option.some.inj hR
          exact ret 1 (by decide) ⟨rfl, rfl⟩ (Nat.le_of_ble_eq_true rfl) (Nat.le_of_ble_eq_true rfl) dd_X6_isOnMesh_0.2.2.2.2.2.2.2.2.2.2.2.2.2.1
theorem dd_X6_shape_0 : dk_R cX6_shape [(0, .iload_n 1, 1), (1, .iconst 1, 1), (2, .if_icmp .lt 31, 3), (5, .iload_n 1, 1), (6, .bipush 8, 2), (8, .if_icmp .gt 25, 3), (11, .iload_n 3, 1), (12, .iconst 1, 1), (13, .if_icmp .lt 20, 3), (16, .iload_n 3, 1), (17, .bipush 8, 2), (19, .if_icmp .gt 14, 3), (22, .iload_n 2, 1), (23, .iconst 1, 1), (24, .if_icmp .lt 9, 3), (27, .iload_n 2, 1)] := dk_use _ _ (by decide +kernel)
theorem dd_X6_shape_1 : dk_R cX6_shape [(28, .bipush 6, 2), (30, .if_icmp .le 13, 3), (33, .new 47, 3), (36, .dup, 1), (37, .ldc 49, 2), (39, .invokespecial 51, 3), (42, .athrow, 1), (43, .aload_n 0, 1), (44, .getfield 10, 3), (47, .invokevirtual 54, 3), (50, .istore 4, 2), (52, .aload_n 0, 1), (53, .getfield 10, 3), (56, .iload_n 1, 1), (57, .iload_n 2, 1), (58, .iload_n 3, 1)] := dk_use _ _ (by decide +kernel)
theorem dd_X6_shape_2 : dk_R cX6_shape [(59, .invokevirtual 58, 3), (62, .iload 4, 2), (64, .ireturn, 1)] := dk_use _ _ (by decide +kernel)
def fX6_shape (xjr : Int32) (xjk : Int32) (xjc : Int32) (xjaf : Nat → Int32) (xjbf : Nat → Int32) (i1 : Int32) (i2 : Int32) (i3 : Int32) : Option (Nat ⊕ (Int32 × Int32 × Int32 × Int32 × (Nat → Int32) × (Nat → Int32))) := (if i1 < 1 then some (.inl 0) else (if 8 < i1 then some (.inl 0) else (if i3 < 1 then some (.inl 0) else (if 8 < i3 then some (.inl 0) else (if i2 < 1 then some (.inl 0) else (if i2 ≤ 6 then ((fX1_countOperands xjr xjk xjc xjaf xjbf).bind fun x_7 => ((fX1_reshape xjaf xjbf i1 i2 i3).bind fun x_11 => some (.inr (x_7, x_11.1, x_11.2.1, x_11.2.2.1, x_11.2.2.2.1, x_11.2.2.2.2)))) else some (.inl 0)))))))
abbrev hX6_shape : Cond := .code yX6_shape cX6_shape 5 (some .int)
theorem mX6_shape : yM yX6_shape hX6_shape 3 := ⟨u_570, u_57, by decide +kernel, by decide +kernel, by decide +kernel⟩
set_option maxHeartbeats 4000000 in
set_option maxRecDepth 100000 in
theorem kX6_shape (l : Launch) (D : va_G) (cy : Nat → ClassId) (hl0 : l.stackTraces = false) (x : Nat) (xj : Nat) (xw : Nat) (xz : Nat) (xo : Nat) (xy : Nat) (xt : Nat) (xja : Nat) (xjb : Nat) (xjr : Int32) (xjk : Int32) (xjc : Int32) (xjg : Int32) (xjs : Int32) (xjan : Nat) (xjaf : Nat → Int32) (xjbn : Nat) (xjbf : Nat → Int32) (i1 : Int32) (i2 : Int32) (i3 : Int32) {res : Nat ⊕ (Int32 × Int32 × Int32 × Int32 × (Nat → Int32) × (Nat → Int32))} (hR : fX6_shape xjr xjk xjc xjaf xjbf i1 i2 i3 = some res) : YX l D cy yX6_shape hX6_shape 6 1 6 [.ref x, .int i1, .int i2, .int i3] [[(x, .inr (8, [.ref xj, .ref xw, .ref xz, .ref xo, .ref xy, .ref xt]))], [(xj, .inr (3, [.ref xja, .ref xjb, .int xjr, .int xjk, .int xjc, .int xjg, .int xjs]))], [(xja, .inr (6, [.ref xjan]))], [(xjan, .inl (cy 1, 81, .inl xjaf))], [(xjb, .inr (6, [.ref xjbn]))], [(xjbn, .inl (cy 1, 81, .inl xjbf))]] (fun v u => ∃ r, res = .inr r ∧ v = some (.int r.1) ∧ u = [[(x, .inr (8, [.ref xj, .ref xw, .ref xz, .ref xo, .ref xy, .ref xt]))], [(xj, .inr (3, [.ref xja, .ref xjb, .int r.2.1, .int r.2.2.1, .int r.2.2.2.1, .int xjg, .int xjs]))], [(xja, .inr (6, [.ref xjan]))], [(xjan, .inl (cy 1, 81, .inl r.2.2.2.2.1))], [(xjb, .inr (6, [.ref xjbn]))], [(xjbn, .inl (cy 1, 81, .inl r.2.2.2.2.2))]]) (fun E u => ∃ r, res = .inl r ∧ E = yE r ∧ u = [[(x, .inr (8, [.ref xj, .ref xw, .ref xz, .ref xo, .ref xy, .ref xt]))], [(xj, .inr (3, [.ref xja, .ref xjb, .int xjr, .int xjk, .int xjc, .int xjg, .int xjs]))], [(xja, .inr (6, [.ref xjan]))], [(xjan, .inl (cy 1, 81, .inl xjaf))], [(xjb, .inr (6, [.ref xjbn]))], [(xjbn, .inl (cy 1, 81, .inl xjbf))]]) := by
  unfold fX6_shape at hR
  refine YX.ofI (cc := cX6_shape) (maxL := 5) (ret := (some .int)) hl0 (by decide +kernel) rfl (Nat.le_of_ble_eq_true rfl) [(0, .ref x), (1, .int i1), (2, .int i2), (3, .int i3)] rfl rfl (fun p e s m args below meth c A H0 Q C ret thr => ?_)
  refine xr_iload_n (n := 1) (j := 1) C dd_X6_shape_0.1 rfl rfl ?_
  refine xr_iconst (n := 2) (v := 1) C dd_X6_shape_0.2.1 rfl rfl ?_
  refine xr_icmp_lt (tgt := 33) (n := 5) C dd_X6_shape_0.2.2.1 rfl rfl (fun c_1 => ?_) (fun c_1 => ?_)
  · replace hR := yf_t c_1 hR
    obtain rfl := Option.some.inj hR
    exact thr "java/lang/IllegalArgumentException" "r and c are 1 to 8, k is 1 to 6" 47 49 51 yt_X6_49 ⟨_, rfl, rfl, rfl⟩ (Nat.le_of_ble_eq_true rfl) (Nat.le_of_ble_eq_true rfl) (Nat.le_of_ble_eq_true rfl) (Nat.le_of_ble_eq_true rfl) dd_X6_shape_1.2.2.1 dd_X6_shape_1.2.2.2.1 dd_X6_shape_1.2.2.2.2.1 dd_X6_shape_1.2.2.2.2.2.1 dd_X6_shape_1.2.2.2.2.2.2.1
  · replace hR := yf_f c_1 hR
    refine xr_iload_n (n := 6) (j := 1) C dd_X6_shape_0.2.2.2.1 rfl rfl ?_
    refine xr_bipush (n := 8) (v := 8) C dd_X6_shape_0.2.2.2.2.1 rfl rfl ?_
    refine xr_icmp_gt (tgt := 33) (n := 11) C dd_X6_shape_0.2.2.2.2.2.1 rfl rfl (fun c_2 => ?_) (fun c_2 => ?_)
    · replace hR := yf_t c_2 hR
      obtain rfl := Option.some.inj hR
      exact thr "java/lang/IllegalArgumentException" "r and c are 1 to 8, k is 1 to 6" 47 49 51 yt_X6_49 ⟨_, rfl, rfl, rfl⟩ (Nat.le_of_ble_eq_true rfl) (Nat.le_of_ble_eq_true rfl) (Nat.le_of_ble_eq_true rfl) (Nat.le_of_ble_eq_true rfl) dd_X6_shape_1.2.2.1 dd_X6_shape_1.2.2.2.1 dd_X6_shape_1.2.2.2.2.1 dd_X6_shape_1.2.2.2.2.2.1 dd_X6_shape_1.2.2.2.2.2.2.1
    · replace hR := yf_f c_2 hR
      refine xr_iload_n (n := 12) (j := 3) C dd_X6_shape_0.2.2.2.2.2.2.1 rfl rfl ?_
      refine xr_iconst (n := 13) (v := 1) C dd_X6_shape_0.2.2.2.2.2.2.2.1 rfl rfl ?_
      refine xr_icmp_lt (tgt := 33) (n := 16) C dd_X6_shape_0.2.2.2.2.2.2.2.2.1 rfl rfl (fun c_3 => ?_) (fun c_3 => ?_)
      · replace hR := yf_t c_3 hR
        obtain rfl := Option.some.inj hR
        exact thr "java/lang/IllegalArgumentException" "r and c are 1 to 8, k is 1 to 6" 47 49 51 yt_X6_49 ⟨_, rfl, rfl, rfl⟩ (Nat.le_of_ble_eq_true rfl) (Nat.le_of_ble_eq_true rfl) (Nat.le_of_ble_eq_true rfl) (Nat.le_of_ble_eq_true rfl) dd_X6_shape_1.2.2.1 dd_X6_shape_1.2.2.2.1 dd_X6_shape_1.2.2.2.2.1 dd_X6_shape_1.2.2.2.2.2.1 dd_X6_shape_1.2.2.2.2.2.2.1
      · replace hR := yf_f c_3 hR
        refine xr_iload_n (n := 17) (j := 3) C dd_X6_shape_0.2.2.2.2.2.2.2.2.2.1 rfl rfl ?_
        refine xr_bipush (n := 19) (v := 8) C dd_X6_shape_0.2.2.2.2.2.2.2.2.2.2.1 rfl rfl ?_
        refine xr_icmp_gt (tgt := 33) (n := 22) C dd_X6_shape_0.2.2.2.2.2.2.2.2.2.2.2.1 rfl rfl (fun c_4 => ?_) (fun c_4 => ?_)
        · replace hR := yf_t c_4 hR
          obtain rfl := Option.some.inj hR
          exact thr "java/lang/IllegalArgumentException" "r and c are 1 to 8, k is 1 to 6" 47 49 51 yt_X6_49 ⟨_, rfl, rfl, rfl⟩ (Nat.le_of_ble_eq_true rfl) (Nat.le_of_ble_eq_true rfl) (Nat.le_of_ble_eq_true rfl) (Nat.le_of_ble_eq_true rfl) dd_X6_shape_1.2.2.1 dd_X6_shape_1.2.2.2.1 dd_X6_shape_1.2.2.2.2.1 dd_X6_shape_1.2.2.2.2.2.1 dd_X6_shape_1.2.2.2.2.2.2.1
        · replace hR := yf_f c_4 hR
          refine xr_iload_n (n := 23) (j := 2) C dd_X6_shape_0.2.2.2.2.2.2.2.2.2.2.2.2.1 rfl rfl ?_
          refine xr_iconst (n := 24) (v := 1) C dd_X6_shape_0.2.2.2.2.2.2.2.2.2.2.2.2.2.1 rfl rfl ?_
          refine xr_icmp_lt (tgt := 33) (n := 27) C dd_X6_shape_0.2.2.2.2.2.2.2.2.2.2.2.2.2.2.1 rfl rfl (fun c_5 => ?_) (fun c_5 => ?_)
          · replace hR := yf_t c_5 hR
            obtain rfl := Option.some.inj hR
            exact thr "java/lang/IllegalArgumentException" "r and c are 1 to 8, k is 1 to 6" 47 49 51 yt_X6_49 ⟨_, rfl, rfl, rfl⟩ (Nat.le_of_ble_eq_true rfl) (Nat.le_of_ble_eq_true rfl) (Nat.le_of_ble_eq_true rfl) (Nat.le_of_ble_eq_true rfl) dd_X6_shape_1.2.2.1 dd_X6_shape_1.2.2.2.1 dd_X6_shape_1.2.2.2.2.1 dd_X6_shape_1.2.2.2.2.2.1 dd_X6_shape_1.2.2.2.2.2.2.1
          · replace hR := yf_f c_5 hR
            refine xr_iload_n (n := 28) (j := 2) C dd_X6_shape_0.2.2.2.2.2.2.2.2.2.2.2.2.2.2.2.1 rfl rfl ?_
            refine xr_bipush (n := 30) (v := 6) C dd_X6_shape_1.1 rfl rfl ?_
            refine xr_icmp_le (tgt := 43) (n := 33) C dd_X6_shape_1.2.1 rfl rfl (fun c_6 => ?_) (fun c_6 => ?_)
            · replace hR := yf_t c_6 hR
              refine xr_aload_n (n := 44) (j := 0) C dd_X6_shape_1.2.2.2.2.2.2.2.1 rfl rfl ?_
              refine xr_get (n := 47) C 0 rfl rfl 0 (by decide) in_X6 u_289 rfl (v := .ref xj) rfl dd_X6_shape_1.2.2.2.2.2.2.2.2.1 rfl ?_
              obtain ⟨x_7, hx_7, hR⟩ := yf_b hR
              refine xr_callVp (n := 50) (As := []) (rest := []) C (kX1_countOperands l D cy (j := xj) (ja := xja) (jb := xjb) (jr := xjr) (jk := xjk) (jc := xjc) (jg := xjg) (js := xjs) (jan := xjan) (jaf := xjaf) (jbn := xjbn) (jbf := xjbf) hx_7) mX1_countOperands u_639 u_640 u_641 1 rfl rfl 6 [1, 2, 3, 4, 5] [0] rfl (by decide +kernel) rfl rfl rfl rfl (Nat.le_of_ble_eq_true rfl) (Nat.le_of_ble_eq_true rfl) (Nat.le_of_ble_eq_true rfl) (Nat.le_of_ble_eq_true rfl) (Nat.le_of_ble_eq_true rfl) dd_X6_shape_1.2.2.2.2.2.2.2.2.2.1 rfl (fun _ _ hp => hp.2) (fun v_8 hp_10 => ?_)
              obtain ⟨rfl, -⟩ := hp_10
              refine xr_st (st' := [.int x_7]) rfl ?_
              refine xr_istore (n := 52) C [(4, .int x_7), (0, .ref x), (1, .int i1), (2, .int i2), (3, .int i3)] dd_X6_shape_1.2.2.2.2.2.2.2.2.2.2.1 (by decide) rfl rfl ?_
              refine xr_aload_n (n := 53) (j := 1) C dd_X6_shape_1.2.2.2.2.2.2.2.2.2.2.2.1 rfl rfl ?_
              refine xr_get (n := 56) C 0 rfl rfl 0 (by decide) in_X6 u_289 rfl (v := .ref xj) rfl dd_X6_shape_1.2.2.2.2.2.2.2.2.2.2.2.2.1 rfl ?_
              refine xr_iload_n (n := 57) (j := 2) C dd_X6_shape_1.2.2.2.2.2.2.2.2.2.2.2.2.2.1 rfl rfl ?_
              refine xr_iload_n (n := 58) (j := 3) C dd_X6_shape_1.2.2.2.2.2.2.2.2.2.2.2.2.2.2.1 rfl rfl ?_
              refine xr_iload_n (n := 59) (j := 4) C dd_X6_shape_1.2.2.2.2.2.2.2.2.2.2.2.2.2.2.2.1 rfl rfl ?_
              obtain ⟨x_11, hx_11, hR⟩ := yf_b hR
              refine xr_callV (n := 62) (As := [.int i1, .int i2, .int i3]) (rest := []) C (kX1_reshape l D cy (j := xj) (ja := xja) (jb := xjb) (jr := xjr) (jk := xjk) (jc := xjc) (jg := xjg) (js := xjs) (jan := xjan) (jaf := xjaf) (jbn := xjbn) (jbf := xjbf) (i1 := i1) (i2 := i2) (i3 := i3) hx_11) mX1_reshape u_643 u_644 u_645 1 rfl rfl 6 [1, 2, 3, 4, 5] [0] rfl (by decide +kernel) rfl rfl rfl rfl (Nat.le_of_ble_eq_true rfl) (Nat.le_of_ble_eq_true rfl) (Nat.le_of_ble_eq_true rfl) (Nat.le_of_ble_eq_true rfl) (Nat.le_of_ble_eq_true rfl) dd_X6_shape_2.1 rfl (fun v_12 u_13 hp_14 => ?_)
              obtain ⟨rfl, rfl⟩ := hp_14
              refine xr_perm C 6 [5, 0, 1, 2, 3, 4] [] [[(x, .inr (8, [.ref xj, .ref xw, .ref xz, .ref xo, .ref xy, .ref xt]))], [(xj, .inr (3, [.ref xja, .ref xjb, .int x_11.1, .int x_11.2.1, .int x_11.2.2.1, .int xjg, .int xjs]))], [(xja, .inr (6, [.ref xjan]))], [(xjan, .inl (cy 1, 81, .inl x_11.2.2.2.1))], [(xjb, .inr (6, [.ref xjbn]))], [(xjbn, .inl (cy 1, 81, .inl x_11.2.2.2.2))]] rfl (by decide +kernel) rfl ?_
              refine xr_iload (n := 64) (j := 0) C dd_X6_shape_2.2.1 rfl rfl ?_
              obtain rfl := Option.some.inj hR
              exact ret x_7 ⟨_, rfl, rfl, rfl⟩ (Nat.le_of_ble_eq_true rfl) (Nat.le_of_ble_eq_true rfl) dd_X6_shape_2.2.2.1
            · replace hR := yf_f c_6 hR
              obtain rfl := Option.some.inj hR
              exact thr "java/lang/IllegalArgumentException" "r and c are 1 to 8, k is 1 to 6" 47 49 51 yt_X6_49 ⟨_, rfl, rfl, rfl⟩ (Nat.le_of_ble_eq_true rfl) (Nat.le_of_ble_eq_true rfl) (Nat.le_of_ble_eq_true rfl) (Nat.le_of_ble_eq_true rfl) dd_X6_shape_1.2.2.1 dd_X6_shape_1.2.2.2.1 dd_X6_shape_1.2.2.2.2.1 dd_X6_shape_1.2.2.2.2.2.1 dd_X6_shape_1.2.2.2.2.2.2.1
theorem dd_X6_left_0 : dk_R cX6_left [(0, .iload_n 1, 1), (1, .ifCond .lt 29, 3), (4, .iload_n 1, 1), (5, .aload_n 0, 1), (6, .getfield 10, 3), (9, .getfield 62, 3), (12, .if_icmp .ge 18, 3), (15, .iload_n 2, 1), (16, .ifCond .lt 14, 3), (19, .iload_n 2, 1), (20, .aload_n 0, 1), (21, .getfield 10, 3), (24, .getfield 66, 3), (27, .if_icmp .lt 13, 3), (30, .new 69, 3), (33, .dup, 1)] := dk_use _ _ (by decide +kernel)
theorem dd_X6_left_1 : dk_R cX6_left [(34, .ldc 71, 2), (36, .invokespecial 73, 3), (39, .athrow, 1), (40, .iload_n 3, 1), (41, .invokestatic 74, 3), (44, .ifCond .ne 13, 3), (47, .new 47, 3), (50, .dup, 1), (51, .ldc 78, 2), (53, .invokespecial 51, 3), (56, .athrow, 1), (57, .aload_n 0, 1), (58, .getfield 10, 3), (61, .getfield 80, 3), (64, .iload_n 1, 1), (65, .iload_n 2, 1)] := dk_use _ _ (by decide +kernel)
theorem dd_X6_left_2 : dk_R cX6_left [(66, .invokevirtual 84, 3), (69, .istore 4, 2), (71, .aload_n 0, 1), (72, .getfield 10, 3), (75, .getfield 80, 3), (78, .iload_n 1, 1), (79, .iload_n 2, 1), (80, .iload_n 3, 1), (81, .invokevirtual 90, 3), (84, .iload 4, 2), (86, .ireturn, 1)] := dk_use _ _ (by decide +kernel)
def fX6_left (xjr : Int32) (xjk : Int32) (xjaf : Nat → Int32) (i1 : Int32) (i2 : Int32) (i3 : Int32) : Option (Nat ⊕ (Int32 × (Nat → Int32))) := (if i1 < 0 then some (.inl 1) else (if xjr ≤ i1 then some (.inl 1) else (if i2 < 0 then some (.inl 1) else (if i2 < xjk then ((fX6_isOperand i3).bind fun x_5 => (if x_5 = 0 then some (.inl 0) else ((fX4_get xjaf i1 i2).bind fun x_10 => ((fX4_set xjaf i1 i2 i3).bind fun x_14 => some (.inr (x_10, x_14)))))) else some (.inl 1)))))
abbrev hX6_left : Cond := .code yX6_left cX6_left 5 (some .int)
theorem mX6_left : yM yX6_left hX6_left 3 := ⟨u_658, u_57, by decide +kernel, by decide +kernel, by decide +kernel⟩
set_option maxHeartbeats 4000000 in
set_option maxRecDepth 100000 in
theorem kX6_left (l : Launch) (D : va_G) (cy : Nat → ClassId) (hl0 : l.stackTraces = false) (x : Nat) (xj : Nat) (xw : Nat) (xz : Nat) (xo : Nat) (xy : Nat) (xt : Nat) (xja : Nat) (xjb : Nat) (xjr : Int32) (xjk : Int32) (xjc : Int32) (xjg : Int32) (xjs : Int32) (xjan : Nat) (xjaf : Nat → Int32) (i1 : Int32) (i2 : Int32) (i3 : Int32) {res : Nat ⊕ (Int32 × (Nat → Int32))} (hR : fX6_left xjr xjk xjaf i1 i2 i3 = some res) : YX l D cy yX6_left hX6_left 6 1 6 [.ref x, .int i1, .int i2, .int i3] [[(x, .inr (8, [.ref xj, .ref xw, .ref xz, .ref xo, .ref xy, .ref xt]))], [(xj, .inr (3, [.ref xja, .ref xjb, .int xjr, .int xjk, .int xjc, .int xjg, .int xjs]))], [(xja, .inr (6, [.ref xjan]))], [(xjan, .inl (cy 1, 81, .inl xjaf))]] (fun v u => ∃ r, res = .inr r ∧ v = some (.int r.1) ∧ u = [[(x, .inr (8, [.ref xj, .ref xw, .ref xz, .ref xo, .ref xy, .ref xt]))], [(xj, .inr (3, [.ref xja, .ref xjb, .int xjr, .int xjk, .int xjc, .int xjg, .int xjs]))], [(xja, .inr (6, [.ref xjan]))], [(xjan, .inl (cy 1, 81, .inl r.2))]]) (fun E u => ∃ r, res = .inl r ∧ E = yE r ∧ u = [[(x, .inr (8, [.ref xj, .ref xw, .ref xz, .ref xo, .ref xy, .ref xt]))], [(xj, .inr (3, [.ref xja, .ref xjb, .int xjr, .int xjk, .int xjc, .int xjg, .int xjs]))], [(xja, .inr (6, [.ref xjan]))], [(xjan, .inl (cy 1, 81, .inl xjaf))]]) := by
  unfold fX6_left at hR
  refine YX.ofI (cc := cX6_left) (maxL := 5) (ret := (some .int)) hl0 (by decide +kernel) rfl (Nat.le_of_ble_eq_true rfl) [(0, .ref x), (1, .int i1), (2, .int i2), (3, .int i3)] rfl rfl (fun p e s m args below meth c A H0 Q C ret thr => ?_)
  refine xr_iload_n (n := 1) (j := 1) C dd_X6_left_0.1 rfl rfl ?_
  refine xr_if_lt (tgt := 30) (n := 4) C dd_X6_left_0.2.1 rfl rfl (fun c_1 => ?_) (fun c_1 => ?_)
  · replace hR := yf_t c_1 hR
    obtain rfl := Option.some.inj hR
    exact thr "java/lang/IndexOutOfBoundsException" "A has no such row or column" 69 71 73 yt_X6_71 ⟨_, rfl, rfl, rfl⟩ (Nat.le_of_ble_eq_true rfl) (Nat.le_of_ble_eq_true rfl) (Nat.le_of_ble_eq_true rfl) (Nat.le_of_ble_eq_true rfl) dd_X6_left_0.2.2.2.2.2.2.2.2.2.2.2.2.2.2.1 dd_X6_left_0.2.2.2.2.2.2.2.2.2.2.2.2.2.2.2.1 dd_X6_left_1.1 dd_X6_left_1.2.1 dd_X6_left_1.2.2.1
  · replace hR := yf_f c_1 hR
    refine xr_iload_n (n := 5) (j := 1) C dd_X6_left_0.2.2.1 rfl rfl ?_
    refine xr_aload_n (n := 6) (j := 0) C dd_X6_left_0.2.2.2.1 rfl rfl ?_
    refine xr_get (n := 9) C 0 rfl rfl 0 (by decide) in_X6 u_289 rfl (v := .ref xj) rfl dd_X6_left_0.2.2.2.2.1 rfl ?_
    refine xr_getN (n := 12) C 1 rfl rfl 2 (by decide) in_X1 RX6 (List.mem_of_getElem? (i := 4) rfl) rfl (v := .int xjr) rfl dd_X6_left_0.2.2.2.2.2.1 rfl ?_
    refine xr_icmp_ge (tgt := 30) (n := 15) C dd_X6_left_0.2.2.2.2.2.2.1 rfl rfl (fun c_2 => ?_) (fun c_2 => ?_)
    · replace hR := yf_t c_2 hR
      obtain rfl := Option.some.inj hR
      exact thr "java/lang/IndexOutOfBoundsException" "A has no such row or column" 69 71 73 yt_X6_71 ⟨_, rfl, rfl, rfl⟩ (Nat.le_of_ble_eq_true rfl) (Nat.le_of_ble_eq_true rfl) (Nat.le_of_ble_eq_true rfl) (Nat.le_of_ble_eq_true rfl) dd_X6_left_0.2.2.2.2.2.2.2.2.2.2.2.2.2.2.1 dd_X6_left_0.2.2.2.2.2.2.2.2.2.2.2.2.2.2.2.1 dd_X6_left_1.1 dd_X6_left_1.2.1 dd_X6_left_1.2.2.1
    · replace hR := yf_f c_2 hR
      refine xr_iload_n (n := 16) (j := 2) C dd_X6_left_0.2.2.2.2.2.2.2.1 rfl rfl ?_
      refine xr_if_lt (tgt := 30) (n := 19) C dd_X6_left_0.2.2.2.2.2.2.2.2.1 rfl rfl (fun c_3 => ?_) (fun c_3 => ?_)
      · replace hR := yf_t c_3 hR
        obtain rfl := Option.some.inj hR
        exact thr "java/lang/IndexOutOfBoundsException" "A has no such row or column" 69 71 73 yt_X6_71 ⟨_, rfl, rfl, rfl⟩ (Nat.le_of_ble_eq_true rfl) (Nat.le_of_ble_eq_true rfl) (Nat.le_of_ble_eq_true rfl) (Nat.le_of_ble_eq_true rfl) dd_X6_left_0.2.2.2.2.2.2.2.2.2.2.2.2.2.2.1 dd_X6_left_0.2.2.2.2.2.2.2.2.2.2.2.2.2.2.2.1 dd_X6_left_1.1 dd_X6_left_1.2.1 dd_X6_left_1.2.2.1
      · replace hR := yf_f c_3 hR
        refine xr_iload_n (n := 20) (j := 2) C dd_X6_left_0.2.2.2.2.2.2.2.2.2.1 rfl rfl ?_
        refine xr_aload_n (n := 21) (j := 0) C dd_X6_left_0.2.2.2.2.2.2.2.2.2.2.1 rfl rfl ?_
        refine xr_get (n := 24) C 0 rfl rfl 0 (by decide) in_X6 u_289 rfl (v := .ref xj) rfl dd_X6_left_0.2.2.2.2.2.2.2.2.2.2.2.1 rfl ?_
        refine xr_getN (n := 27) C 1 rfl rfl 3 (by decide) in_X1 RX6 (List.mem_of_getElem? (i := 5) rfl) rfl (v := .int xjk) rfl dd_X6_left_0.2.2.2.2.2.2.2.2.2.2.2.2.1 rfl ?_
        refine xr_icmp_lt (tgt := 40) (n := 30) C dd_X6_left_0.2.2.2.2.2.2.2.2.2.2.2.2.2.1 rfl rfl (fun c_4 => ?_) (fun c_4 => ?_)
        · replace hR := yf_t c_4 hR
          refine xr_iload_n (n := 41) (j := 3) C dd_X6_left_1.2.2.2.1 rfl rfl ?_
          obtain ⟨x_5, hx_5, hR⟩ := yf_b hR
          refine xr_callSp (n := 44) (As := [.int i3]) (rest := []) C (kX6_isOperand l D cy (i1 := i3) hx_5) mX6_isOperand u_675 u_676 4 [] [0, 1, 2, 3] rfl (by decide +kernel) rfl rfl rfl rfl (Nat.le_of_ble_eq_true rfl) (Nat.le_of_ble_eq_true rfl) (Nat.le_of_ble_eq_true rfl) (Nat.le_of_ble_eq_true rfl) (Nat.le_of_ble_eq_true rfl) dd_X6_left_1.2.2.2.2.1 rfl (fun _ _ hp => hp.2) (fun v_6 hp_8 => ?_)
          obtain ⟨rfl, -⟩ := hp_8
          refine xr_st (st' := [.int x_5]) rfl ?_
          refine xr_if_ne (tgt := 57) (n := 47) C dd_X6_left_1.2.2.2.2.2.1 rfl rfl (fun c_9 => ?_) (fun c_9 => ?_)
          · replace hR := yf_f c_9 hR
            refine xr_aload_n (n := 58) (j := 0) C dd_X6_left_1.2.2.2.2.2.2.2.2.2.2.2.1 rfl rfl ?_
            refine xr_get (n := 61) C 0 rfl rfl 0 (by decide) in_X6 u_289 rfl (v := .ref xj) rfl dd_X6_left_1.2.2.2.2.2.2.2.2.2.2.2.2.1 rfl ?_
            refine xr_getN (n := 64) C 1 rfl rfl 0 (by decide) in_X1 RX6 (List.mem_of_getElem? (i := 2) rfl) rfl (v := .ref xja) rfl dd_X6_left_1.2.2.2.2.2.2.2.2.2.2.2.2.2.1 rfl ?_
            refine xr_iload_n (n := 65) (j := 1) C dd_X6_left_1.2.2.2.2.2.2.2.2.2.2.2.2.2.2.1 rfl rfl ?_
            refine xr_iload_n (n := 66) (j := 2) C dd_X6_left_1.2.2.2.2.2.2.2.2.2.2.2.2.2.2.2.1 rfl rfl ?_
            obtain ⟨x_10, hx_10, hR⟩ := yf_b hR
            refine xr_callVp (n := 69) (As := [.int i1, .int i2]) (rest := []) C (kX4_get l D cy (h := xja) (hn := xjan) (hf := xjaf) (row := i1) (col := i2) hx_10) mX4_get u_492 u_341 u_342 2 rfl rfl 4 [2, 3] [0, 1] rfl (by decide +kernel) rfl rfl rfl rfl (Nat.le_of_ble_eq_true rfl) (Nat.le_of_ble_eq_true rfl) (Nat.le_of_ble_eq_true rfl) (Nat.le_of_ble_eq_true rfl) (Nat.le_of_ble_eq_true rfl) dd_X6_left_2.1 rfl (fun _ _ hp => hp.2) (fun v_11 hp_13 => ?_)
            obtain ⟨rfl, -⟩ := hp_13
            refine xr_st (st' := [.int x_10]) rfl ?_
            refine xr_istore (n := 71) C [(4, .int x_10), (0, .ref x), (1, .int i1), (2, .int i2), (3, .int i3)] dd_X6_left_2.2.1 (by decide) rfl rfl ?_
            refine xr_aload_n (n := 72) (j := 1) C dd_X6_left_2.2.2.1 rfl rfl ?_
            refine xr_get (n := 75) C 0 rfl rfl 0 (by decide) in_X6 u_289 rfl (v := .ref xj) rfl dd_X6_left_2.2.2.2.1 rfl ?_
            refine xr_getN (n := 78) C 1 rfl rfl 0 (by decide) in_X1 RX6 (List.mem_of_getElem? (i := 2) rfl) rfl (v := .ref xja) rfl dd_X6_left_2.2.2.2.2.1 rfl ?_
            refine xr_iload_n (n := 79) (j := 2) C dd_X6_left_2.2.2.2.2.2.1 rfl rfl ?_
            refine xr_iload_n (n := 80) (j := 3) C dd_X6_left_2.2.2.2.2.2.2.1 rfl rfl ?_
            refine xr_iload_n (n := 81) (j := 4) C dd_X6_left_2.2.2.2.2.2.2.2.1 rfl rfl ?_
            obtain ⟨x_14, hx_14, hR⟩ := yf_b hR
            refine xr_callV (n := 84) (As := [.int i1, .int i2, .int i3]) (rest := []) C (kX4_set l D cy (h := xja) (hn := xjan) (hf := xjaf) (row := i1) (col := i2) (num := i3) hx_14) mX4_set u_679 u_680 u_681 2 rfl rfl 4 [2, 3] [0, 1] rfl (by decide +kernel) rfl rfl rfl rfl (Nat.le_of_ble_eq_true rfl) (Nat.le_of_ble_eq_true rfl) (Nat.le_of_ble_eq_true rfl) (Nat.le_of_ble_eq_true rfl) (Nat.le_of_ble_eq_true rfl) dd_X6_left_2.2.2.2.2.2.2.2.2.1 rfl (fun v_15 u_16 hp_17 => ?_)
            obtain ⟨rfl, rfl⟩ := hp_17
            refine xr_perm C 4 [2, 3, 0, 1] [] [[(x, .inr (8, [.ref xj, .ref xw, .ref xz, .ref xo, .ref xy, .ref xt]))], [(xj, .inr (3, [.ref xja, .ref xjb, .int xjr, .int xjk, .int xjc, .int xjg, .int xjs]))], [(xja, .inr (6, [.ref xjan]))], [(xjan, .inl (cy 1, 81, .inl x_14))]] rfl (by decide +kernel) rfl ?_
            refine xr_iload (n := 86) (j := 0) C dd_X6_left_2.2.2.2.2.2.2.2.2.2.1 rfl rfl ?_
            obtain rfl := Option.some.inj hR
            exact ret x_10 ⟨_, rfl, rfl, rfl⟩ (Nat.le_of_ble_eq_true rfl) (Nat.le_of_ble_eq_true rfl) dd_X6_left_2.2.2.2.2.2.2.2.2.2.2.1
          · replace hR := yf_t c_9 hR
            obtain rfl := Option.some.inj hR
            exact thr "java/lang/IllegalArgumentException" "an operand is -9 to 9" 47 78 51 yt_X6_78 ⟨_, rfl, rfl, rfl⟩ (Nat.le_of_ble_eq_true rfl) (Nat.le_of_ble_eq_true rfl) (Nat.le_of_ble_eq_true rfl) (Nat.le_of_ble_eq_true rfl) dd_X6_left_1.2.2.2.2.2.2.1 dd_X6_left_1.2.2.2.2.2.2.2.1 dd_X6_left_1.2.2.2.2.2.2.2.2.1 dd_X6_left_1.2.2.2.2.2.2.2.2.2.1 dd_X6_left_1.2.2.2.2.2.2.2.2.2.2.1
        · replace hR := yf_f c_4 hR
          obtain rfl := Option.some.inj hR
          exact thr "java/lang/IndexOutOfBoundsException" "A has no such row or column" 69 71 73 yt_X6_71 ⟨_, rfl, rfl, rfl⟩ (Nat.le_of_ble_eq_true rfl) (Nat.le_of_ble_eq_true rfl) (Nat.le_of_ble_eq_true rfl) (Nat.le_of_ble_eq_true rfl) dd_X6_left_0.2.2.2.2.2.2.2.2.2.2.2.2.2.2.1 dd_X6_left_0.2.2.2.2.2.2.2.2.2.2.2.2.2.2.2.1 dd_X6_left_1.1 dd_X6_left_1.2.1 dd_X6_left_1.2.2.1
