theorem u_465 : Cond.methodLink RX6 265 yX1_countSteps ∈ yU := yu_tables_1_2 169 (by decide +kernel) (by decide +kernel)
theorem u_466 : Cond.methodLink RX6 268 yX1_skippedSet ∈ yU := yu_tables_1_2 170 (by decide +kernel) (by decide +kernel)
theorem u_464 : Cond.code yX6_meshNumber cX6_meshNumber 2 (some .int) ∈ yU := yu_tables_1_2 168 (by decide +kernel) (by decide +kernel)
theorem u_481 : Cond.methodLink RX6 286 yX0_stateOf ∈ yU := yu_tables_1_2 185 (by decide +kernel) (by decide +kernel)
theorem u_482 : Cond.instanceMethod yX0_stateOf ∈ yU := yu_tables_1_2 186 (by decide +kernel) (by decide +kernel)
theorem u_483 : Cond.selects RX0 yX0_stateOf yX0_stateOf ∈ yU := yu_tables_1_2 187 (by decide +kernel) (by decide +kernel)
theorem u_493 : Cond.methodLink RX6 292 yX5_isInTile ∈ yU := yu_tables_1_2 197 (by decide +kernel) (by decide +kernel)
theorem u_505 : Cond.methodLink RX6 298 yX5_lastStepOf ∈ yU := yu_tables_1_2 209 (by decide +kernel) (by decide +kernel)
theorem u_506 : Cond.instanceMethod yX5_lastStepOf ∈ yU := yu_tables_1_2 210 (by decide +kernel) (by decide +kernel)
theorem u_507 : Cond.selects RX5 yX5_lastStepOf yX5_lastStepOf ∈ yU := yu_tables_1_2 211 (by decide +kernel) (by decide +kernel)
theorem u_480 : Cond.code yX6_cellNumber cX6_cellNumber 4 (some .int) ∈ yU := yu_tables_1_2 184 (by decide +kernel) (by decide +kernel)
theorem u_942 : Cond.methodLink RX6 301 yX5_isInLayout ∈ yU := yu_tables_1_4 166 (by decide +kernel) (by decide +kernel)
theorem u_941 : Cond.code yX6_signOf cX6_signOf 4 (some .char) ∈ yU := yu_tables_1_4 165 (by decide +kernel) (by decide +kernel)
theorem u_390 : Cond.methodLink RX6 309 yX2_countTiles ∈ yU := yu_tables_1_2 94 (by decide +kernel) (by decide +kernel)
theorem u_546 : Cond.methodLink RX6 312 yX2_countFed ∈ yU := yu_tables_1_3 10 (by decide +kernel) (by decide +kernel)
theorem u_547 : Cond.instanceMethod yX2_countFed ∈ yU := yu_tables_1_3 11 (by decide +kernel) (by decide +kernel)
theorem u_548 : Cond.selects RX2 yX2_countFed yX2_countFed ∈ yU := yu_tables_1_3 12 (by decide +kernel) (by decide +kernel)
theorem u_545 : Cond.code yX6_bestNumber cX6_bestNumber 2 (some .int) ∈ yU := yu_tables_1_3 9 (by decide +kernel) (by decide +kernel)
theorem u_389 : Cond.code yX6_savedBeats cX6_savedBeats 1 (some .int) ∈ yU := yu_tables_1_2 93 (by decide +kernel) (by decide +kernel)
theorem u_461 : Cond.methodLink RX6 192 yX6_meshNumber ∈ yU := yu_tables_1_2 165 (by decide +kernel) (by decide +kernel)
theorem u_463 : Cond.instanceMethod yX6_meshNumber ∈ yU := yu_tables_1_2 167 (by decide +kernel) (by decide +kernel)
theorem u_13 : Cond.selects RX6 yX6_meshNumber yX6_meshNumber ∈ yU := yu 13 (by decide +kernel) (by decide +kernel)
theorem u_874 : Cond.code yX6_mesh cX6_mesh 2 (some .int) ∈ yU := yu_tables_1_4 98 (by decide +kernel) (by decide +kernel)
theorem yt_X6_190 : yT RX6 "java/lang/IllegalArgumentException" "what is 0 to 15" 47 190 51 := ⟨by decide +kernel, u_571, u_70, by decide +kernel, ytb_0⟩
theorem dX6_meshNumber_1 : decode cX6_meshNumber 1 = .ok (.tableswitch 231 0 14 #[75, 83, 91, 99, 107, 123, 131, 139, 150, 161, 169, 177, 193, 201, 223], 75) := by decide +kernel
theorem dd_X6_meshNumber_0 : dk_R cX6_meshNumber [(0, .iload_n 1, 1), (76, .aload_n 0, 1), (77, .getfield 10, 3), (80, .getfield 62, 3), (83, .ireturn, 1), (84, .aload_n 0, 1), (85, .getfield 10, 3), (88, .getfield 66, 3), (91, .ireturn, 1), (92, .aload_n 0, 1), (93, .getfield 10, 3), (96, .getfield 93, 3), (99, .ireturn, 1), (100, .aload_n 0, 1), (101, .getfield 10, 3), (104, .getfield 103, 3)] := dk_use _ _ (by decide +kernel)
theorem dd_X6_meshNumber_1 : dk_R cX6_meshNumber [(107, .ireturn, 1), (108, .aload_n 0, 1), (109, .getfield 10, 3), (112, .getfield 106, 3), (115, .ifCond .eq 7, 3), (118, .iconst 1, 1), (119, .goto 4, 3), (122, .iconst 0, 1), (123, .ireturn, 1), (124, .aload_n 0, 1), (125, .getfield 10, 3), (128, .invokevirtual 265, 3), (131, .ireturn, 1), (132, .aload_n 0, 1), (133, .getfield 10, 3), (136, .invokevirtual 268, 3)] := dk_use _ _ (by decide +kernel)
theorem dd_X6_meshNumber_2 : dk_R cX6_meshNumber [(139, .ireturn, 1), (140, .aload_n 0, 1), (141, .getfield 19, 3), (144, .getfield 125, 3), (147, .invokestatic 128, 3), (150, .ireturn, 1), (151, .aload_n 0, 1), (152, .getfield 19, 3), (155, .getfield 271, 3), (158, .invokestatic 128, 3), (161, .ireturn, 1), (162, .aload_n 0, 1), (163, .getfield 33, 3), (166, .getfield 274, 3), (169, .ireturn, 1), (170, .aload_n 0, 1)] := dk_use _ _ (by decide +kernel)
theorem dd_X6_meshNumber_3 : dk_R cX6_meshNumber [(171, .getfield 33, 3), (174, .getfield 277, 3), (177, .ireturn, 1), (178, .aload_n 0, 1), (179, .getfield 33, 3), (182, .invokevirtual 134, 3), (185, .ifCond .eq 7, 3), (188, .iconst 1, 1), (189, .goto 4, 3), (192, .iconst 0, 1), (193, .ireturn, 1), (194, .aload_n 0, 1), (195, .getfield 33, 3), (198, .getfield 158, 3), (201, .ireturn, 1), (202, .aload_n 0, 1)] := dk_use _ _ (by decide +kernel)
theorem dd_X6_meshNumber_4 : dk_R cX6_meshNumber [(203, .getfield 33, 3), (206, .invokevirtual 134, 3), (209, .ifCond .eq 13, 3), (212, .aload_n 0, 1), (213, .getfield 33, 3), (216, .getfield 280, 3), (219, .goto 4, 3), (222, .iconst (-1), 1), (223, .ireturn, 1), (224, .aload_n 0, 1), (225, .getfield 26, 3), (228, .getfield 179, 3), (231, .ireturn, 1), (232, .aload_n 0, 1), (233, .getfield 26, 3), (236, .getfield 283, 3)] := dk_use _ _ (by decide +kernel)
theorem dd_X6_meshNumber_5 : dk_R cX6_meshNumber [(239, .ireturn, 1)] := dk_use _ _ (by decide +kernel)
def fX6_meshNumber (xjr : Int32) (xjk : Int32) (xjc : Int32) (xjg : Int32) (xjs : Int32) (xjaf : Nat → Int32) (xjbf : Nat → Int32) (xwb : Int32) (xwk : Int32) (xzr : Int32) (xzc : Int32) (xoti : Int32) (xobl : Int32) (xobe : Int32) (xose : Int32) (i1 : Int32) : Option (Int32) := (if i1 = 0 then some xjr else (if i1 = 1 then some xjk else (if i1 = 2 then some xjc else (if i1 = 3 then some xjg else (if i1 = 4 then (if xjs = 0 then some 0 else some 1) else (if i1 = 5 then ((fX1_countSteps xjr xjk xjc xjg xjaf xjbf).bind fun x_8 => some x_8) else (if i1 = 6 then ((fX1_skippedSet xjr xjk xjc xjg xjaf xjbf).bind fun x_13 => some x_13) else (if i1 = 7 then ((fJ6_bitCount_0f7a4 xwb).bind fun x_18 => some x_18) else (if i1 = 8 then ((fJ6_bitCount_0f7a4 xwk).bind fun x_23 => some x_23) else (if i1 = 9 then some xobe else (if i1 = 10 then some xose else (if i1 = 11 then ((fX5_runs xobl).bind fun x_30 => (if x_30 = 0 then some 0 else some 1)) else (if i1 = 12 then some xobl else (if i1 = 13 then ((fX5_runs xobl).bind fun x_37 => (if x_37 = 0 then some (-1) else some xoti)) else (if i1 = 14 then some xzr else some xzc)))))))))))))))
abbrev hX6_meshNumber : Cond := .code yX6_meshNumber cX6_meshNumber 2 (some .int)
theorem mX6_meshNumber : yM yX6_meshNumber hX6_meshNumber 1 := ⟨u_464, u_57, by decide +kernel, by decide +kernel, by decide +kernel⟩
set_option maxHeartbeats 4000000 in
set_option maxRecDepth 100000 in
theorem kX6_meshNumber (l : Launch) (D : va_G) (cy : Nat → ClassId) (x : Nat) (xj : Nat) (xw : Nat) (xz : Nat) (xo : Nat) (xy : Nat) (xt : Nat) (xja : Nat) (xjb : Nat) (xjr : Int32) (xjk : Int32) (xjc : Int32) (xjg : Int32) (xjs : Int32) (xjan : Nat) (xjaf : Nat → Int32) (xjbn : Nat) (xjbf : Nat → Int32) (xwu : Nat) (xwm : Nat) (xwb : Int32) (xwk : Int32) (xzv : Nat) (xzr : Int32) (xzc : Int32) (xzs : Int32) (xoj : Nat) (xoy : Nat) (xosk : Int32) (xoti : Int32) (xofr : Int32) (xofc : Int32) (xobt : Int32) (xobl : Int32) (xobe : Int32) (xose : Int32) (xotk : Int32) (i1 : Int32) {res : Int32} (hR : fX6_meshNumber xjr xjk xjc xjg xjs xjaf xjbf xwb xwk xzr xzc xoti xobl xobe xose i1 = some res) : YM l D cy yX6_meshNumber hX6_meshNumber 5 0 0 [.ref x, .int i1] [[(x, .inr (8, [.ref xj, .ref xw, .ref xz, .ref xo, .ref xy, .ref xt]))], [(xj, .inr (3, [.ref xja, .ref xjb, .int xjr, .int xjk, .int xjc, .int xjg, .int xjs]))], [(xja, .inr (6, [.ref xjan]))], [(xjan, .inl (cy 1, 81, .inl xjaf))], [(xjb, .inr (6, [.ref xjbn]))], [(xjbn, .inl (cy 1, 81, .inl xjbf))], [(xw, .inr (2, [.ref xwu, .ref xwm, .int xwb, .int xwk]))], [(xz, .inr (5, [.ref xzv, .int xzr, .int xzc, .int xzs]))], [(xo, .inr (7, [.ref xoj, .ref xoy, .int xosk, .int xoti, .int xofr, .int xofc, .int xobt, .int xobl, .int xobe, .int xose, .int xotk]))]] (fun v u => v = some (.int res) ∧ u = [[(x, .inr (8, [.ref xj, .ref xw, .ref xz, .ref xo, .ref xy, .ref xt]))], [(xj, .inr (3, [.ref xja, .ref xjb, .int xjr, .int xjk, .int xjc, .int xjg, .int xjs]))], [(xja, .inr (6, [.ref xjan]))], [(xjan, .inl (cy 1, 81, .inl xjaf))], [(xjb, .inr (6, [.ref xjbn]))], [(xjbn, .inl (cy 1, 81, .inl xjbf))], [(xw, .inr (2, [.ref xwu, .ref xwm, .int xwb, .int xwk]))], [(xz, .inr (5, [.ref xzv, .int xzr, .int xzc, .int xzs]))], [(xo, .inr (7, [.ref xoj, .ref xoy, .int xosk, .int xoti, .int xofr, .int xofc, .int xobt, .int xobl, .int xobe, .int xose, .int xotk]))]]) := by
  unfold fX6_meshNumber at hR
  refine YM.ofI (cc := cX6_meshNumber) (maxL := 2) (ret := (some .int)) (by decide +kernel) rfl (Nat.le_of_ble_eq_true rfl) [(0, .ref x), (1, .int i1)] rfl rfl (fun p e s m args below meth c A H0 Q C hnm ret => ?_)
  refine xr_iload_n (n := 1) (j := 1) C dd_X6_meshNumber_0.1 rfl rfl ?_
  by_cases c_1 : i1 = 0
  · replace hR := yf_t c_1 hR
    refine xr_tableIn (off := 75) (tgt := 76) C dX6_meshNumber_1 (by rw [c_1]; decide) (by rw [c_1]; decide) (by rw [c_1]; decide) rfl ?_
    refine xr_aload_n (n := 77) (j := 0) C dd_X6_meshNumber_0.2.1 rfl rfl ?_
    refine xr_get (n := 80) C 0 rfl rfl 0 (by decide) in_X6 u_289 rfl (v := .ref xj) rfl dd_X6_meshNumber_0.2.2.1 rfl ?_
    refine xr_getN (n := 83) C 1 rfl rfl 2 (by decide) in_X1 RX6 (List.mem_of_getElem? (i := 4) rfl) rfl (v := .int xjr) rfl dd_X6_meshNumber_0.2.2.2.1 rfl ?_
    obtain rfl := Option.some.inj hR
    exact ret xjr ⟨rfl, rfl⟩ (Nat.le_of_ble_eq_true rfl) (Nat.le_of_ble_eq_true rfl) dd_X6_meshNumber_0.2.2.2.2.1
  replace hR := yf_f c_1 hR
  by_cases c_2 : i1 = 1
  · replace hR := yf_t c_2 hR
    refine xr_tableIn (off := 83) (tgt := 84) C dX6_meshNumber_1 (by rw [c_2]; decide) (by rw [c_2]; decide) (by rw [c_2]; decide) rfl ?_
    refine xr_aload_n (n := 85) (j := 0) C dd_X6_meshNumber_0.2.2.2.2.2.1 rfl rfl ?_
    refine xr_get (n := 88) C 0 rfl rfl 0 (by decide) in_X6 u_289 rfl (v := .ref xj) rfl dd_X6_meshNumber_0.2.2.2.2.2.2.1 rfl ?_
    refine xr_getN (n := 91) C 1 rfl rfl 3 (by decide) in_X1 RX6 (List.mem_of_getElem? (i := 5) rfl) rfl (v := .int xjk) rfl dd_X6_meshNumber_0.2.2.2.2.2.2.2.1 rfl ?_
    obtain rfl := Option.some.inj hR
    exact ret xjk ⟨rfl, rfl⟩ (Nat.le_of_ble_eq_true rfl) (Nat.le_of_ble_eq_true rfl) dd_X6_meshNumber_0.2.2.2.2.2.2.2.2.1
  replace hR := yf_f c_2 hR
  by_cases c_3 : i1 = 2
  · replace hR := yf_t c_3 hR
    refine xr_tableIn (off := 91) (tgt := 92) C dX6_meshNumber_1 (by rw [c_3]; decide) (by rw [c_3]; decide) (by rw [c_3]; decide) rfl ?_
    refine xr_aload_n (n := 93) (j := 0) C dd_X6_meshNumber_0.2.2.2.2.2.2.2.2.2.1 rfl rfl ?_
    refine xr_get (n := 96) C 0 rfl rfl 0 (by decide) in_X6 u_289 rfl (v := .ref xj) rfl dd_X6_meshNumber_0.2.2.2.2.2.2.2.2.2.2.1 rfl ?_
    refine xr_getN (n := 99) C 1 rfl rfl 4 (by decide) in_X1 RX6 (List.mem_of_getElem? (i := 6) rfl) rfl (v := .int xjc) rfl dd_X6_meshNumber_0.2.2.2.2.2.2.2.2.2.2.2.1 rfl ?_
    obtain rfl := Option.some.inj hR
    exact ret xjc ⟨rfl, rfl⟩ (Nat.le_of_ble_eq_true rfl) (Nat.le_of_ble_eq_true rfl) dd_X6_meshNumber_0.2.2.2.2.2.2.2.2.2.2.2.2.1
  replace hR := yf_f c_3 hR
  by_cases c_4 : i1 = 3
  · replace hR := yf_t c_4 hR
    refine xr_tableIn (off := 99) (tgt := 100) C dX6_meshNumber_1 (by rw [c_4]; decide) (by rw [c_4]; decide) (by rw [c_4]; decide) rfl ?_
    refine xr_aload_n (n := 101) (j := 0) C dd_X6_meshNumber_0.2.2.2.2.2.2.2.2.2.2.2.2.2.1 rfl rfl ?_
    refine xr_get (n := 104) C 0 rfl rfl 0 (by decide) in_X6 u_289 rfl (v := .ref xj) rfl dd_X6_meshNumber_0.2.2.2.2.2.2.2.2.2.2.2.2.2.2.1 rfl ?_
    refine xr_getN (n := 107) C 1 rfl rfl 5 (by decide) in_X1 RX6 (List.mem_of_getElem? (i := 7) rfl) rfl (v := .int xjg) rfl dd_X6_meshNumber_0.2.2.2.2.2.2.2.2.2.2.2.2.2.2.2.1 rfl ?_
    obtain rfl := Option.some.inj hR
    exact ret xjg ⟨rfl, rfl⟩ (Nat.le_of_ble_eq_true rfl) (Nat.le_of_ble_eq_true rfl) dd_X6_meshNumber_1.1
  replace hR := yf_f c_4 hR
  by_cases c_5 : i1 = 4
  · replace hR := yf_t c_5 hR
    refine xr_tableIn (off := 107) (tgt := 108) C dX6_meshNumber_1 (by rw [c_5]; decide) (by rw [c_5]; decide) (by rw [c_5]; decide) rfl ?_
    refine xr_aload_n (n := 109) (j := 0) C dd_X6_meshNumber_1.2.1 rfl rfl ?_
    refine xr_get (n := 112) C 0 rfl rfl 0 (by decide) in_X6 u_289 rfl (v := .ref xj) rfl dd_X6_meshNumber_1.2.2.1 rfl ?_
    refine xr_getN (n := 115) C 1 rfl rfl 6 (by decide) in_X1 RX6 (List.mem_of_getElem? (i := 9) rfl) rfl (v := .int xjs) rfl dd_X6_meshNumber_1.2.2.2.1 rfl ?_
    refine xr_if_eq (tgt := 122) (n := 118) C dd_X6_meshNumber_1.2.2.2.2.1 rfl rfl (fun c_6 => ?_) (fun c_6 => ?_)
    · replace hR := yf_t c_6 hR
      refine xr_iconst (n := 123) (v := 0) C dd_X6_meshNumber_1.2.2.2.2.2.2.2.1 rfl rfl ?_
      obtain rfl := Option.some.inj hR
      exact ret 0 ⟨rfl, rfl⟩ (Nat.le_of_ble_eq_true rfl) (Nat.le_of_ble_eq_true rfl) dd_X6_meshNumber_1.2.2.2.2.2.2.2.2.1
    · replace hR := yf_f c_6 hR
      refine xr_iconst (n := 119) (v := 1) C dd_X6_meshNumber_1.2.2.2.2.2.1 rfl rfl ?_
      refine xr_goto (tgt := 123) C dd_X6_meshNumber_1.2.2.2.2.2.2.1 rfl ?_
      obtain rfl := Option.some.inj hR
      exact ret 1 ⟨rfl, rfl⟩ (Nat.le_of_ble_eq_true rfl) (Nat.le_of_ble_eq_true rfl) dd_X6_meshNumber_1.2.2.2.2.2.2.2.2.1
  replace hR := yf_f c_5 hR
  by_cases c_7 : i1 = 5
  · replace hR := yf_t c_7 hR
    refine xr_tableIn (off := 123) (tgt := 124) C dX6_meshNumber_1 (by rw [c_7]; decide) (by rw [c_7]; decide) (by rw [c_7]; decide) rfl ?_
    refine xr_aload_n (n := 125) (j := 0) C dd_X6_meshNumber_1.2.2.2.2.2.2.2.2.2.1 rfl rfl ?_
    refine xr_get (n := 128) C 0 rfl rfl 0 (by decide) in_X6 u_289 rfl (v := .ref xj) rfl dd_X6_meshNumber_1.2.2.2.2.2.2.2.2.2.2.1 rfl ?_
    obtain ⟨x_8, hx_8, hR⟩ := yf_b hR
    refine xr_callVp (n := 131) (As := []) (rest := []) C (kX1_countSteps l D cy (j := xj) (ja := xja) (jb := xjb) (jr := xjr) (jk := xjk) (jc := xjc) (jg := xjg) (js := xjs) (jan := xjan) (jaf := xjaf) (jbn := xjbn) (jbf := xjbf) hx_8) mX1_countSteps u_465 u_329 u_330 1 rfl rfl 9 [1, 2, 3, 4, 5] [0, 6, 7, 8] rfl (by decide +kernel) rfl rfl rfl rfl (Nat.le_of_ble_eq_true rfl) (Nat.le_of_ble_eq_true rfl) (Nat.le_of_ble_eq_true rfl) (Nat.le_of_ble_eq_true rfl) (Nat.le_of_ble_eq_true rfl) dd_X6_meshNumber_1.2.2.2.2.2.2.2.2.2.2.2.1 rfl (fun _ _ hp => hp.2) (fun v_9 hp_11 => ?_)
    obtain ⟨rfl, -⟩ := hp_11
    refine xr_st (st' := [.int x_8]) rfl ?_
    obtain rfl := Option.some.inj hR
    exact ret x_8 ⟨rfl, rfl⟩ (Nat.le_of_ble_eq_true rfl) (Nat.le_of_ble_eq_true rfl) dd_X6_meshNumber_1.2.2.2.2.2.2.2.2.2.2.2.2.1
  replace hR := yf_f c_7 hR
  by_cases c_12 : i1 = 6
  · replace hR := yf_t c_12 hR
    refine xr_tableIn (off := 131) (tgt := 132) C dX6_meshNumber_1 (by rw [c_12]; decide) (by rw [c_12]; decide) (by rw [c_12]; decide) rfl ?_
    refine xr_aload_n (n := 133) (j := 0) C dd_X6_meshNumber_1.2.2.2.2.2.2.2.2.2.2.2.2.2.1 rfl rfl ?_
    refine xr_get (n := 136) C 0 rfl rfl 0 (by decide) in_X6 u_289 rfl (v := .ref xj) rfl dd_X6_meshNumber_1.2.2.2.2.2.2.2.2.2.2.2.2.2.2.1 rfl ?_
    obtain ⟨x_13, hx_13, hR⟩ := yf_b hR
    refine xr_callVp (n := 139) (As := []) (rest := []) C (kX1_skippedSet l D cy (j := xj) (ja := xja) (jb := xjb) (jr := xjr) (jk := xjk) (jc := xjc) (jg := xjg) (js := xjs) (jan := xjan) (jaf := xjaf) (jbn := xjbn) (jbf := xjbf) hx_13) mX1_skippedSet u_466 u_333 u_334 1 rfl rfl 9 [1, 2, 3, 4, 5] [0, 6, 7, 8] rfl (by decide +kernel) rfl rfl rfl rfl (Nat.le_of_ble_eq_true rfl) (Nat.le_of_ble_eq_true rfl) (Nat.le_of_ble_eq_true rfl) (Nat.le_of_ble_eq_true rfl) (Nat.le_of_ble_eq_true rfl) dd_X6_meshNumber_1.2.2.2.2.2.2.2.2.2.2.2.2.2.2.2.1 rfl (fun _ _ hp => hp.2) (fun v_14 hp_16 => ?_)
    obtain ⟨rfl, -⟩ := hp_16
    refine xr_st (st' := [.int x_13]) rfl ?_
    obtain rfl := Option.some.inj hR
    exact ret x_13 ⟨rfl, rfl⟩ (Nat.le_of_ble_eq_true rfl) (Nat.le_of_ble_eq_true rfl) dd_X6_meshNumber_2.1
  replace hR := yf_f c_12 hR
  by_cases c_17 : i1 = 7
  · replace hR := yf_t c_17 hR
    refine xr_tableIn (off := 139) (tgt := 140) C dX6_meshNumber_1 (by rw [c_17]; decide) (by rw [c_17]; decide) (by rw [c_17]; decide) rfl ?_
    refine xr_aload_n (n := 141) (j := 0) C dd_X6_meshNumber_2.2.1 rfl rfl ?_
    refine xr_get (n := 144) C 0 rfl rfl 1 (by decide) in_X6 u_290 rfl (v := .ref xw) rfl dd_X6_meshNumber_2.2.2.1 rfl ?_
    refine xr_getN (n := 147) C 6 rfl rfl 2 (by decide) in_X0 RX6 (List.mem_of_getElem? (i := 15) rfl) rfl (v := .int xwb) rfl dd_X6_meshNumber_2.2.2.2.1 rfl ?_
    obtain ⟨x_18, hx_18, hR⟩ := yf_b hR
    refine xr_callSp (n := 150) (As := [.int xwb]) (rest := []) C (kJ6_bitCount_0f7a4 l D cy (i1 := xwb) hx_18) mJ6_bitCount_0f7a4 u_467 u_349 9 [] [0, 1, 2, 3, 4, 5, 6, 7, 8] rfl (by decide +kernel) rfl rfl rfl rfl (Nat.le_of_ble_eq_true rfl) (Nat.le_of_ble_eq_true rfl) (Nat.le_of_ble_eq_true rfl) (Nat.le_of_ble_eq_true rfl) (Nat.le_of_ble_eq_true rfl) dd_X6_meshNumber_2.2.2.2.2.1 rfl (fun _ _ hp => hp.2) (fun v_19 hp_21 => ?_)
    obtain ⟨rfl, -⟩ := hp_21
    refine xr_st (st' := [.int x_18]) rfl ?_
    obtain rfl := Option.some.inj hR
    exact ret x_18 ⟨rfl, rfl⟩ (Nat.le_of_ble_eq_true rfl) (Nat.le_of_ble_eq_true rfl) dd_X6_meshNumber_2.2.2.2.2.2.1
  replace hR := yf_f c_17 hR
  by_cases c_22 : i1 = 8
  · replace hR := yf_t c_22 hR
    refine xr_tableIn (off := 150) (tgt := 151) C dX6_meshNumber_1 (by rw [c_22]; decide) (by rw [c_22]; decide) (by rw [c_22]; decide) rfl ?_
    refine xr_aload_n (n := 152) (j := 0) C dd_X6_meshNumber_2.2.2.2.2.2.2.1 rfl rfl ?_
    refine xr_get (n := 155) C 0 rfl rfl 1 (by decide) in_X6 u_290 rfl (v := .ref xw) rfl dd_X6_meshNumber_2.2.2.2.2.2.2.2.1 rfl ?_
    refine xr_getN (n := 158) C 6 rfl rfl 3 (by decide) in_X0 RX6 (List.mem_of_getElem? (i := 16) rfl) rfl (v := .int xwk) rfl dd_X6_meshNumber_2.2.2.2.2.2.2.2.2.1 rfl ?_
    obtain ⟨x_23, hx_23, hR⟩ := yf_b hR
    refine xr_callSp (n := 161) (As := [.int xwk]) (rest := []) C (kJ6_bitCount_0f7a4 l D cy (i1 := xwk) hx_23) mJ6_bitCount_0f7a4 u_467 u_349 9 [] [0, 1, 2, 3, 4, 5, 6, 7, 8] rfl (by decide +kernel) rfl rfl rfl rfl (Nat.le_of_ble_eq_true rfl) (Nat.le_of_ble_eq_true rfl) (Nat.le_of_ble_eq_true rfl) (Nat.le_of_ble_eq_true rfl) (Nat.le_of_ble_eq_true rfl) dd_X6_meshNumber_2.2.2.2.2.2.2.2.2.2.1 rfl (fun _ _ hp => hp.2) (fun v_24 hp_26 => ?_)
    obtain ⟨rfl, -⟩ := hp_26
    refine xr_st (st' := [.int x_23]) rfl ?_
    obtain rfl := Option.some.inj hR
    exact ret x_23 ⟨rfl, rfl⟩ (Nat.le_of_ble_eq_true rfl) (Nat.le_of_ble_eq_true rfl) dd_X6_meshNumber_2.2.2.2.2.2.2.2.2.2.2.1
  replace hR := yf_f c_22 hR
  by_cases c_27 : i1 = 9
  · replace hR := yf_t c_27 hR
    refine xr_tableIn (off := 161) (tgt := 162) C dX6_meshNumber_1 (by rw [c_27]; decide) (by rw [c_27]; decide) (by rw [c_27]; decide) rfl ?_
    refine xr_aload_n (n := 163) (j := 0) C dd_X6_meshNumber_2.2.2.2.2.2.2.2.2.2.2.2.1 rfl rfl ?_
    refine xr_get (n := 166) C 0 rfl rfl 3 (by decide) in_X6 u_292 rfl (v := .ref xo) rfl dd_X6_meshNumber_2.2.2.2.2.2.2.2.2.2.2.2.2.1 rfl ?_
    refine xr_getN (n := 169) C 8 rfl rfl 8 (by decide) in_X5 RX6 (List.mem_of_getElem? (i := 41) rfl) rfl (v := .int xobe) rfl dd_X6_meshNumber_2.2.2.2.2.2.2.2.2.2.2.2.2.2.1 rfl ?_
    obtain rfl := Option.some.inj hR
    exact ret xobe ⟨rfl, rfl⟩ (Nat.le_of_ble_eq_true rfl) (Nat.le_of_ble_eq_true rfl) dd_X6_meshNumber_2.2.2.2.2.2.2.2.2.2.2.2.2.2.2.1
  replace hR := yf_f c_27 hR
  by_cases c_28 : i1 = 10
  · replace hR := yf_t c_28 hR
    refine xr_tableIn (off := 169) (tgt := 170) C dX6_meshNumber_1 (by rw [c_28]; decide) (by rw [c_28]; decide) (by rw [c_28]; decide) rfl ?_
    refine xr_aload_n (n := 171) (j := 0) C dd_X6_meshNumber_2.2.2.2.2.2.2.2.2.2.2.2.2.2.2.2.1 rfl rfl ?_
    refine xr_get (n := 174) C 0 rfl rfl 3 (by decide) in_X6 u_292 rfl (v := .ref xo) rfl dd_X6_meshNumber_3.1 rfl ?_
    refine xr_getN (n := 177) C 8 rfl rfl 9 (by decide) in_X5 RX6 (List.mem_of_getElem? (i := 42) rfl) rfl (v := .int xose) rfl dd_X6_meshNumber_3.2.1 rfl ?_
    obtain rfl := Option.some.inj hR
    exact ret xose ⟨rfl, rfl⟩ (Nat.le_of_ble_eq_true rfl) (Nat.le_of_ble_eq_true rfl) dd_X6_meshNumber_3.2.2.1
  replace hR := yf_f c_28 hR
  by_cases c_29 : i1 = 11
  · replace hR := yf_t c_29 hR
    refine xr_tableIn (off := 177) (tgt := 178) C dX6_meshNumber_1 (by rw [c_29]; decide) (by rw [c_29]; decide) (by rw [c_29]; decide) rfl ?_
    refine xr_aload_n (n := 179) (j := 0) C dd_X6_meshNumber_3.2.2.2.1 rfl rfl ?_
    refine xr_get (n := 182) C 0 rfl rfl 3 (by decide) in_X6 u_292 rfl (v := .ref xo) rfl dd_X6_meshNumber_3.2.2.2.2.1 rfl ?_
    obtain ⟨x_30, hx_30, hR⟩ := yf_b hR
    refine xr_callVp (n := 185) (As := []) (rest := []) C (kX5_runs l D cy (o := xo) (oj := xoj) (oy := xoy) (osk := xosk) (oti := xoti) (ofr := xofr) (ofc := xofc) (obt := xobt) (obl := xobl) (obe := xobe) (ose := xose) (otk := xotk) hx_30) mX5_runs u_468 u_430 u_431 8 rfl rfl 9 [8] [0, 1, 2, 3, 4, 5, 6, 7] rfl (by decide +kernel) rfl rfl rfl rfl (Nat.le_of_ble_eq_true rfl) (Nat.le_of_ble_eq_true rfl) (Nat.le_of_ble_eq_true rfl) (Nat.le_of_ble_eq_true rfl) (Nat.le_of_ble_eq_true rfl) dd_X6_meshNumber_3.2.2.2.2.2.1 rfl (fun _ _ hp => hp.2) (fun v_31 hp_33 => ?_)
    obtain ⟨rfl, -⟩ := hp_33
    refine xr_st (st' := [.int x_30]) rfl ?_
    refine xr_if_eq (tgt := 192) (n := 188) C dd_X6_meshNumber_3.2.2.2.2.2.2.1 rfl rfl (fun c_34 => ?_) (fun c_34 => ?_)
    · replace hR := yf_t c_34 hR
      refine xr_iconst (n := 193) (v := 0) C dd_X6_meshNumber_3.2.2.2.2.2.2.2.2.2.1 rfl rfl ?_
      obtain rfl := Option.some.inj hR
      exact ret 0 ⟨rfl, rfl⟩ (Nat.le_of_ble_eq_true rfl) (Nat.le_of_ble_eq_true rfl) dd_X6_meshNumber_3.2.2.2.2.2.2.2.2.2.2.1
    · replace hR := yf_f c_34 hR
      refine xr_iconst (n := 189) (v := 1) C dd_X6_meshNumber_3.2.2.2.2.2.2.2.1 rfl rfl ?_
      refine xr_goto (tgt := 193) C dd_X6_meshNumber_3.2.2.2.2.2.2.2.2.1 rfl ?_
      obtain rfl := Option.some.inj hR
      exact ret 1 ⟨rfl, rfl⟩ (Nat.le_of_ble_eq_true rfl) (Nat.le_of_ble_eq_true rfl) dd_X6_meshNumber_3.2.2.2.2.2.2.2.2.2.2.1
  replace hR := yf_f c_29 hR
  by_cases c_35 : i1 = 12
  · replace hR := yf_t c_35 hR
    refine xr_tableIn (off := 193) (tgt := 194) C dX6_meshNumber_1 (by rw [c_35]; decide) (by rw [c_35]; decide) (by rw [c_35]; decide) rfl ?_
    refine xr_aload_n (n := 195) (j := 0) C dd_X6_meshNumber_3.2.2.2.2.2.2.2.2.2.2.2.1 rfl rfl ?_
    refine xr_get (n := 198) C 0 rfl rfl 3 (by decide) in_X6 u_292 rfl (v := .ref xo) rfl dd_X6_meshNumber_3.2.2.2.2.2.2.2.2.2.2.2.2.1 rfl ?_
    refine xr_getN (n := 201) C 8 rfl rfl 7 (by decide) in_X5 RX6 (List.mem_of_getElem? (i := 40) rfl) rfl (v := .int xobl) rfl dd_X6_meshNumber_3.2.2.2.2.2.2.2.2.2.2.2.2.2.1 rfl ?_
    obtain rfl := Option.some.inj hR
    exact ret xobl ⟨rfl, rfl⟩ (Nat.le_of_ble_eq_true rfl) (Nat.le_of_ble_eq_true rfl) dd_X6_meshNumber_3.2.2.2.2.2.2.2.2.2.2.2.2.2.2.1
  replace hR := yf_f c_35 hR
  by_cases c_36 : i1 = 13
  · replace hR := yf_t c_36 hR
    refine xr_tableIn (off := 201) (tgt := 202) C dX6_meshNumber_1 (by rw [c_36]; decide) (by rw [c_36]; decide) (by rw [c_36]; decide) rfl ?_
    refine xr_aload_n (n := 203) (j := 0) C dd_X6_meshNumber_3.2.2.2.2.2.2.2.2.2.2.2.2.2.2.2.1 rfl rfl ?_
    refine xr_get (n := 206) C 0 rfl rfl 3 (by decide) in_X6 u_292 rfl (v := .ref xo) rfl dd_X6_meshNumber_4.1 rfl ?_
    obtain ⟨x_37, hx_37, hR⟩ := yf_b hR
    refine xr_callVp (n := 209) (As := []) (rest := []) C (kX5_runs l D cy (o := xo) (oj := xoj) (oy := xoy) (osk := xosk) (oti := xoti) (ofr := xofr) (ofc := xofc) (obt := xobt) (obl := xobl) (obe := xobe) (ose := xose) (otk := xotk) hx_37) mX5_runs u_468 u_430 u_431 8 rfl rfl 9 [8] [0, 1, 2, 3, 4, 5, 6, 7] rfl (by decide +kernel) rfl rfl rfl rfl (Nat.le_of_ble_eq_true rfl) (Nat.le_of_ble_eq_true rfl) (Nat.le_of_ble_eq_true rfl) (Nat.le_of_ble_eq_true rfl) (Nat.le_of_ble_eq_true rfl) dd_X6_meshNumber_4.2.1 rfl (fun _ _ hp => hp.2) (fun v_38 hp_40 => ?_)
    obtain ⟨rfl, -⟩ := hp_40
    refine xr_st (st' := [.int x_37]) rfl ?_
    refine xr_if_eq (tgt := 222) (n := 212) C dd_X6_meshNumber_4.2.2.1 rfl rfl (fun c_41 => ?_) (fun c_41 => ?_)
    · replace hR := yf_t c_41 hR
      refine xr_iconst (n := 223) (v := -1) C dd_X6_meshNumber_4.2.2.2.2.2.2.2.1 rfl rfl ?_
      obtain rfl := Option.some.inj hR
      exact ret (-1) ⟨rfl, rfl⟩ (Nat.le_of_ble_eq_true rfl) (Nat.le_of_ble_eq_true rfl) dd_X6_meshNumber_4.2.2.2.2.2.2.2.2.1
    · replace hR := yf_f c_41 hR
      refine xr_aload_n (n := 213) (j := 0) C dd_X6_meshNumber_4.2.2.2.1 rfl rfl ?_
      refine xr_get (n := 216) C 0 rfl rfl 3 (by decide) in_X6 u_292 rfl (v := .ref xo) rfl dd_X6_meshNumber_4.2.2.2.2.1 rfl ?_
      refine xr_getN (n := 219) C 8 rfl rfl 3 (by decide) in_X5 RX6 (List.mem_of_getElem? (i := 39) rfl) rfl (v := .int xoti) rfl dd_X6_meshNumber_4.2.2.2.2.2.1 rfl ?_
      refine xr_goto (tgt := 223) C dd_X6_meshNumber_4.2.2.2.2.2.2.1 rfl ?_
      obtain rfl := Option.some.inj hR
      exact ret xoti ⟨rfl, rfl⟩ (Nat.le_of_ble_eq_true rfl) (Nat.le_of_ble_eq_true rfl) dd_X6_meshNumber_4.2.2.2.2.2.2.2.2.1
  replace hR := yf_f c_36 hR
  by_cases c_42 : i1 = 14
  · replace hR := yf_t c_42 hR
    refine xr_tableIn (off := 223) (tgt := 224) C dX6_meshNumber_1 (by rw [c_42]; decide) (by rw [c_42]; decide) (by rw [c_42]; decide) rfl ?_
    refine xr_aload_n (n := 225) (j := 0) C dd_X6_meshNumber_4.2.2.2.2.2.2.2.2.2.1 rfl rfl ?_
    refine xr_get (n := 228) C 0 rfl rfl 2 (by decide) in_X6 u_291 rfl (v := .ref xz) rfl dd_X6_meshNumber_4.2.2.2.2.2.2.2.2.2.2.1 rfl ?_
    refine xr_getN (n := 231) C 7 rfl rfl 1 (by decide) in_X3 RX6 (List.mem_of_getElem? (i := 21) rfl) rfl (v := .int xzr) rfl dd_X6_meshNumber_4.2.2.2.2.2.2.2.2.2.2.2.1 rfl ?_
    obtain rfl := Option.some.inj hR
    exact ret xzr ⟨rfl, rfl⟩ (Nat.le_of_ble_eq_true rfl) (Nat.le_of_ble_eq_true rfl) dd_X6_meshNumber_4.2.2.2.2.2.2.2.2.2.2.2.2.1
  replace hR := yf_f c_42 hR
  refine xr_tableOut (tgt := 232) C dX6_meshNumber_1 (ytab_out (fun k h1 h2 => by
    rcases (show k = 0 ∨ k = 1 ∨ k = 2 ∨ k = 3 ∨ k = 4 ∨ k = 5 ∨ k = 6 ∨ k = 7 ∨ k = 8 ∨ k = 9 ∨ k = 10 ∨ k = 11 ∨ k = 12 ∨ k = 13 ∨ k = 14 by omega) with rfl | rfl | rfl | rfl | rfl | rfl | rfl | rfl | rfl | rfl | rfl | rfl | rfl | rfl | rfl
    · exact c_1
    · exact c_2
    · exact c_3
    · exact c_4
    · exact c_5
    · exact c_7
    · exact c_12
    · exact c_17
    · exact c_22
    · exact c_27
    · exact c_28
    · exact c_29
    · exact c_35
    · exact c_36
    · exact c_42)) rfl ?_
  refine xr_aload_n (n := 233) (j := 0) C dd_X6_meshNumber_4.2.2.2.2.2.2.2.2.2.2.2.2.2.1 rfl rfl ?_
  refine xr_get (n := 236) C 0 rfl rfl 2 (by decide) in_X6 u_291 rfl (v := .ref xz) rfl dd_X6_meshNumber_4.2.2.2.2.2.2.2.2.2.2.2.2.2.2.1 rfl ?_
  refine xr_getN (n := 239) C 7 rfl rfl 2 (by decide) in_X3 RX6 (List.mem_of_getElem? (i := 22) rfl) rfl (v := .int xzc) rfl dd_X6_meshNumber_4.2.2.2.2.2.2.2.2.2.2.2.2.2.2.2.1 rfl ?_
  obtain rfl := Option.some.inj hR
  exact ret xzc ⟨rfl, rfl⟩ (Nat.le_of_ble_eq_true rfl) (Nat.le_of_ble_eq_true rfl) dd_X6_meshNumber_5.1
theorem dX6_cellNumber_1 : decode cX6_cellNumber 1 = .ok (.tableswitch 79 0 2 #[27, 37, 50], 27) := by decide +kernel
theorem dd_X6_cellNumber_0 : dk_R cX6_cellNumber [(0, .iload_n 3, 1), (28, .aload_n 0, 1), (29, .getfield 19, 3), (32, .iload_n 1, 1), (33, .iload_n 2, 1), (34, .invokevirtual 286, 3), (37, .ireturn, 1), (38, .aload_n 0, 1), (39, .getfield 19, 3), (42, .getfield 289, 3), (45, .iload_n 1, 1), (46, .iload_n 2, 1), (47, .invokevirtual 84, 3), (50, .ireturn, 1), (51, .aload_n 0, 1), (52, .getfield 33, 3)] := dk_use _ _ (by decide +kernel)
theorem dd_X6_cellNumber_1 : dk_R cX6_cellNumber [(55, .iload_n 1, 1), (56, .iload_n 2, 1), (57, .invokevirtual 292, 3), (60, .ifCond .eq 18, 3), (63, .aload_n 0, 1), (64, .getfield 19, 3), (67, .getfield 295, 3), (70, .iload_n 1, 1), (71, .iload_n 2, 1), (72, .invokevirtual 84, 3), (75, .goto 4, 3), (78, .iconst 0, 1), (79, .ireturn, 1), (80, .aload_n 0, 1), (81, .getfield 33, 3), (84, .iload_n 1, 1)] := dk_use _ _ (by decide +kernel)
theorem dd_X6_cellNumber_2 : dk_R cX6_cellNumber [(85, .iload_n 2, 1), (86, .invokevirtual 298, 3), (89, .ireturn, 1)] := dk_use _ _ (by decide +kernel)
def fX6_cellNumber (xwb : Int32) (xwk : Int32) (xwuf : Nat → Int32) (xwmf : Nat → Int32) (xofr : Int32) (xofc : Int32) (xobt : Int32) (xobl : Int32) (xoy0 : Int32) (xoy1 : Int32) (xoy2 : Int32) (xoy3 : Int32) (xoy4 : Int32) (xoy5 : Int32) (xoy6 : Int32) (i1 : Int32) (i2 : Int32) (i3 : Int32) : Option (Int32) := (if i3 = 0 then ((fX0_stateOf xwb xwk i1 i2).bind fun x_2 => some x_2) else (if i3 = 1 then ((fX4_get xwuf i1 i2).bind fun x_7 => some x_7) else (if i3 = 2 then ((fX5_isInTile xofr xofc xobl xoy0 xoy1 xoy3 xoy4 xoy5 xoy6 i1 i2).bind fun x_12 => (if x_12 = 0 then some 0 else ((fX4_get xwmf i1 i2).bind fun x_17 => some x_17))) else ((fX5_lastStepOf xofr xofc xobt xobl xoy0 xoy1 xoy2 xoy3 xoy4 xoy5 xoy6 i1 i2).bind fun x_21 => some x_21))))
abbrev hX6_cellNumber : Cond := .code yX6_cellNumber cX6_cellNumber 4 (some .int)
theorem mX6_cellNumber : yM yX6_cellNumber hX6_cellNumber 3 := ⟨u_480, u_57, by decide +kernel, by decide +kernel, by decide +kernel⟩
set_option maxHeartbeats 4000000 in
set_option maxRecDepth 100000 in
theorem kX6_cellNumber (l : Launch) (D : va_G) (cy : Nat → ClassId) (x : Nat) (xj : Nat) (xw : Nat) (xz : Nat) (xo : Nat) (xy : Nat) (xt : Nat) (xwu : Nat) (xwm : Nat) (xwb : Int32) (xwk : Int32) (xwun : Nat) (xwuf : Nat → Int32) (xwmn : Nat) (xwmf : Nat → Int32) (xoj : Nat) (xoy : Nat) (xosk : Int32) (xoti : Int32) (xofr : Int32) (xofc : Int32) (xobt : Int32) (xobl : Int32) (xobe : Int32) (xose : Int32) (xotk : Int32) (xoy0 : Int32) (xoy1 : Int32) (xoy2 : Int32) (xoy3 : Int32) (xoy4 : Int32) (xoy5 : Int32) (xoy6 : Int32) (xoy7 : Int32) (xoy8 : Int32) (xoy9 : Int32) (i1 : Int32) (i2 : Int32) (i3 : Int32) {res : Int32} (hR : fX6_cellNumber xwb xwk xwuf xwmf xofr xofc xobt xobl xoy0 xoy1 xoy2 xoy3 xoy4 xoy5 xoy6 i1 i2 i3 = some res) : YM l D cy yX6_cellNumber hX6_cellNumber 5 0 0 [.ref x, .int i1, .int i2, .int i3] [[(x, .inr (8, [.ref xj, .ref xw, .ref xz, .ref xo, .ref xy, .ref xt]))], [(xw, .inr (2, [.ref xwu, .ref xwm, .int xwb, .int xwk]))], [(xwu, .inr (6, [.ref xwun]))], [(xwun, .inl (cy 1, 81, .inl xwuf))], [(xwm, .inr (6, [.ref xwmn]))], [(xwmn, .inl (cy 1, 81, .inl xwmf))], [(xo, .inr (7, [.ref xoj, .ref xoy, .int xosk, .int xoti, .int xofr, .int xofc, .int xobt, .int xobl, .int xobe, .int xose, .int xotk]))], [(xoy, .inr (4, [.int xoy0, .int xoy1, .int xoy2, .int xoy3, .int xoy4, .int xoy5, .int xoy6, .int xoy7, .int xoy8, .int xoy9]))]] (fun v u => v = some (.int res) ∧ u = [[(x, .inr (8, [.ref xj, .ref xw, .ref xz, .ref xo, .ref xy, .ref xt]))], [(xw, .inr (2, [.ref xwu, .ref xwm, .int xwb, .int xwk]))], [(xwu, .inr (6, [.ref xwun]))], [(xwun, .inl (cy 1, 81, .inl xwuf))], [(xwm, .inr (6, [.ref xwmn]))], [(xwmn, .inl (cy 1, 81, .inl xwmf))], [(xo, .inr (7, [.ref xoj, .ref xoy, .int xosk, .int xoti, .int xofr, .int xofc, .int xobt, .int xobl, .int xobe, .int xose, .int xotk]))], [(xoy, .inr (4, [.int xoy0, .int xoy1, .int xoy2, .int xoy3, .int xoy4, .int xoy5, .int xoy6, .int xoy7, .int xoy8, .int xoy9]))]]) := by
  unfold fX6_cellNumber at hR
  refine YM.ofI (cc := cX6_cellNumber) (maxL := 4) (ret := (some .int)) (by decide +kernel) rfl (Nat.le_of_ble_eq_true rfl) [(0, .ref x), (1, .int i1), (2, .int i2), (3, .int i3)] rfl rfl (fun p e s m args below meth c A H0 Q C hnm ret => ?_)
  refine xr_iload_n (n := 1) (j := 3) C dd_X6_cellNumber_0.1 rfl rfl ?_
  by_cases c_1 : i3 = 0
  · replace hR := yf_t c_1 hR
    refine xr_tableIn (off := 27) (tgt := 28) C dX6_cellNumber_1 (by rw [c_1]; decide) (by rw [c_1]; decide) (by rw [c_1]; decide) rfl ?_
    refine xr_aload_n (n := 29) (j := 0) C dd_X6_cellNumber_0.2.1 rfl rfl ?_
    refine xr_get (n := 32) C 0 rfl rfl 1 (by decide) in_X6 u_290 rfl (v := .ref xw) rfl dd_X6_cellNumber_0.2.2.1 rfl ?_
    refine xr_iload_n (n := 33) (j := 1) C dd_X6_cellNumber_0.2.2.2.1 rfl rfl ?_
    refine xr_iload_n (n := 34) (j := 2) C dd_X6_cellNumber_0.2.2.2.2.1 rfl rfl ?_
    obtain ⟨x_2, hx_2, hR⟩ := yf_b hR
    refine xr_callVp (n := 37) (As := [.int i1, .int i2]) (rest := []) C (kX0_stateOf l D cy (w := xw) (wu := xwu) (wm := xwm) (wb := xwb) (wk := xwk) (i1 := i1) (i2 := i2) hx_2) mX0_stateOf u_481 u_482 u_483 1 rfl rfl 8 [1] [0, 2, 3, 4, 5, 6, 7] rfl (by decide +kernel) rfl rfl rfl rfl (Nat.le_of_ble_eq_true rfl) (Nat.le_of_ble_eq_true rfl) (Nat.le_of_ble_eq_true rfl) (Nat.le_of_ble_eq_true rfl) (Nat.le_of_ble_eq_true rfl) dd_X6_cellNumber_0.2.2.2.2.2.1 rfl (fun _ _ hp => hp.2) (fun v_3 hp_5 => ?_)
    obtain ⟨rfl, -⟩ := hp_5
    refine xr_st (st' := [.int x_2]) rfl ?_
    obtain rfl := Option.some.inj hR
    exact ret x_2 ⟨rfl, rfl⟩ (Nat.le_of_ble_eq_true rfl) (Nat.le_of_ble_eq_true rfl) dd_X6_cellNumber_0.2.2.2.2.2.2.1
  replace hR := yf_f c_1 hR
  by_cases c_6 : i3 = 1
  · replace hR := yf_t c_6 hR
    refine xr_tableIn (off := 37) (tgt := 38) C dX6_cellNumber_1 (by rw [c_6]; decide) (by rw [c_6]; decide) (by rw [c_6]; decide) rfl ?_
    refine xr_aload_n (n := 39) (j := 0) C dd_X6_cellNumber_0.2.2.2.2.2.2.2.1 rfl rfl ?_
    refine xr_get (n := 42) C 0 rfl rfl 1 (by decide) in_X6 u_290 rfl (v := .ref xw) rfl dd_X6_cellNumber_0.2.2.2.2.2.2.2.2.1 rfl ?_
    refine xr_getN (n := 45) C 1 rfl rfl 0 (by decide) in_X0 RX6 (List.mem_of_getElem? (i := 12) rfl) rfl (v := .ref xwu) rfl dd_X6_cellNumber_0.2.2.2.2.2.2.2.2.2.1 rfl ?_
    refine xr_iload_n (n := 46) (j := 1) C dd_X6_cellNumber_0.2.2.2.2.2.2.2.2.2.2.1 rfl rfl ?_
    refine xr_iload_n (n := 47) (j := 2) C dd_X6_cellNumber_0.2.2.2.2.2.2.2.2.2.2.2.1 rfl rfl ?_
    obtain ⟨x_7, hx_7, hR⟩ := yf_b hR
    refine xr_callVp (n := 50) (As := [.int i1, .int i2]) (rest := []) C (kX4_get l D cy (h := xwu) (hn := xwun) (hf := xwuf) (row := i1) (col := i2) hx_7) mX4_get u_492 u_341 u_342 2 rfl rfl 8 [2, 3] [0, 1, 4, 5, 6, 7] rfl (by decide +kernel) rfl rfl rfl rfl (Nat.le_of_ble_eq_true rfl) (Nat.le_of_ble_eq_true rfl) (Nat.le_of_ble_eq_true rfl) (Nat.le_of_ble_eq_true rfl) (Nat.le_of_ble_eq_true rfl) dd_X6_cellNumber_0.2.2.2.2.2.2.2.2.2.2.2.2.1 rfl (fun _ _ hp => hp.2) (fun v_8 hp_10 => ?_)
    obtain ⟨rfl, -⟩ := hp_10
    refine xr_st (st' := [.int x_7]) rfl ?_
    obtain rfl := Option.some.inj hR
    exact ret x_7 ⟨rfl, rfl⟩ (Nat.le_of_ble_eq_true rfl) (Nat.le_of_ble_eq_true rfl) dd_X6_cellNumber_0.2.2.2.2.2.2.2.2.2.2.2.2.2.1
  replace hR := yf_f c_6 hR
  by_cases c_11 : i3 = 2
  · replace hR := yf_t c_11 hR
    refine xr_tableIn (off := 50) (tgt := 51) C dX6_cellNumber_1 (by rw [c_11]; decide) (by rw [c_11]; decide) (by rw [c_11]; decide) rfl ?_
    refine xr_aload_n (n := 52) (j := 0) C dd_X6_cellNumber_0.2.2.2.2.2.2.2.2.2.2.2.2.2.2.1 rfl rfl ?_
    refine xr_get (n := 55) C 0 rfl rfl 3 (by decide) in_X6 u_292 rfl (v := .ref xo) rfl dd_X6_cellNumber_0.2.2.2.2.2.2.2.2.2.2.2.2.2.2.2.1 rfl ?_
    refine xr_iload_n (n := 56) (j := 1) C dd_X6_cellNumber_1.1 rfl rfl ?_
    refine xr_iload_n (n := 57) (j := 2) C dd_X6_cellNumber_1.2.1 rfl rfl ?_
    obtain ⟨x_12, hx_12, hR⟩ := yf_b hR
    refine xr_callVp (n := 60) (As := [.int i1, .int i2]) (rest := []) C (kX5_isInTile l D cy (o := xo) (oj := xoj) (oy := xoy) (osk := xosk) (oti := xoti) (ofr := xofr) (ofc := xofc) (obt := xobt) (obl := xobl) (obe := xobe) (ose := xose) (otk := xotk) (oy0 := xoy0) (oy1 := xoy1) (oy2 := xoy2) (oy3 := xoy3) (oy4 := xoy4) (oy5 := xoy5) (oy6 := xoy6) (oy7 := xoy7) (oy8 := xoy8) (oy9 := xoy9) (i1 := i1) (i2 := i2) hx_12) mX5_isInTile u_493 u_494 u_495 6 rfl rfl 8 [6, 7] [0, 1, 2, 3, 4, 5] rfl (by decide +kernel) rfl rfl rfl rfl (Nat.le_of_ble_eq_true rfl) (Nat.le_of_ble_eq_true rfl) (Nat.le_of_ble_eq_true rfl) (Nat.le_of_ble_eq_true rfl) (Nat.le_of_ble_eq_true rfl) dd_X6_cellNumber_1.2.2.1 rfl (fun _ _ hp => hp.2) (fun v_13 hp_15 => ?_)
    obtain ⟨rfl, -⟩ := hp_15
    refine xr_st (st' := [.int x_12]) rfl ?_
    refine xr_if_eq (tgt := 78) (n := 63) C dd_X6_cellNumber_1.2.2.2.1 rfl rfl (fun c_16 => ?_) (fun c_16 => ?_)
    · replace hR := yf_t c_16 hR
      refine xr_iconst (n := 79) (v := 0) C dd_X6_cellNumber_1.2.2.2.2.2.2.2.2.2.2.2.1 rfl rfl ?_
      obtain rfl := Option.some.inj hR
      exact ret 0 ⟨rfl, rfl⟩ (Nat.le_of_ble_eq_true rfl) (Nat.le_of_ble_eq_true rfl) dd_X6_cellNumber_1.2.2.2.2.2.2.2.2.2.2.2.2.1
    · replace hR := yf_f c_16 hR
      refine xr_aload_n (n := 64) (j := 0) C dd_X6_cellNumber_1.2.2.2.2.1 rfl rfl ?_
      refine xr_get (n := 67) C 0 rfl rfl 1 (by decide) in_X6 u_290 rfl (v := .ref xw) rfl dd_X6_cellNumber_1.2.2.2.2.2.1 rfl ?_
      refine xr_getN (n := 70) C 1 rfl rfl 1 (by decide) in_X0 RX6 (List.mem_of_getElem? (i := 14) rfl) rfl (v := .ref xwm) rfl dd_X6_cellNumber_1.2.2.2.2.2.2.1 rfl ?_
      refine xr_iload_n (n := 71) (j := 1) C dd_X6_cellNumber_1.2.2.2.2.2.2.2.1 rfl rfl ?_
      refine xr_iload_n (n := 72) (j := 2) C dd_X6_cellNumber_1.2.2.2.2.2.2.2.2.1 rfl rfl ?_
      obtain ⟨x_17, hx_17, hR⟩ := yf_b hR
      refine xr_callVp (n := 75) (As := [.int i1, .int i2]) (rest := []) C (kX4_get l D cy (h := xwm) (hn := xwmn) (hf := xwmf) (row := i1) (col := i2) hx_17) mX4_get u_492 u_341 u_342 4 rfl rfl 8 [4, 5] [0, 1, 2, 3, 6, 7] rfl (by decide +kernel) rfl rfl rfl rfl (Nat.le_of_ble_eq_true rfl) (Nat.le_of_ble_eq_true rfl) (Nat.le_of_ble_eq_true rfl) (Nat.le_of_ble_eq_true rfl) (Nat.le_of_ble_eq_true rfl) dd_X6_cellNumber_1.2.2.2.2.2.2.2.2.2.1 rfl (fun _ _ hp => hp.2) (fun v_18 hp_20 => ?_)
      obtain ⟨rfl, -⟩ := hp_20
      refine xr_st (st' := [.int x_17]) rfl ?_
      refine xr_goto (tgt := 79) C dd_X6_cellNumber_1.2.2.2.2.2.2.2.2.2.2.1 rfl ?_
      obtain rfl := Option.some.inj hR
      exact ret x_17 ⟨rfl, rfl⟩ (Nat.le_of_ble_eq_true rfl) (Nat.le_of_ble_eq_true rfl) dd_X6_cellNumber_1.2.2.2.2.2.2.2.2.2.2.2.2.1
  replace hR := yf_f c_11 hR
  refine xr_tableOut (tgt := 80) C dX6_cellNumber_1 (ytab_out (fun k h1 h2 => by
    rcases (show k = 0 ∨ k = 1 ∨ k = 2 by omega) with rfl | rfl | rfl
    · exact c_1
    · exact c_6
    · exact c_11)) rfl ?_
  refine xr_aload_n (n := 81) (j := 0) C dd_X6_cellNumber_1.2.2.2.2.2.2.2.2.2.2.2.2.2.1 rfl rfl ?_
  refine xr_get (n := 84) C 0 rfl rfl 3 (by decide) in_X6 u_292 rfl (v := .ref xo) rfl dd_X6_cellNumber_1.2.2.2.2.2.2.2.2.2.2.2.2.2.2.1 rfl ?_
  refine xr_iload_n (n := 85) (j := 1) C dd_X6_cellNumber_1.2.2.2.2.2.2.2.2.2.2.2.2.2.2.2.1 rfl rfl ?_
  refine xr_iload_n (n := 86) (j := 2) C dd_X6_cellNumber_2.1 rfl rfl ?_
  obtain ⟨x_21, hx_21, hR⟩ := yf_b hR
  refine xr_callVp (n := 89) (As := [.int i1, .int i2]) (rest := []) C (kX5_lastStepOf l D cy (o := xo) (oj := xoj) (oy := xoy) (osk := xosk) (oti := xoti) (ofr := xofr) (ofc := xofc) (obt := xobt) (obl := xobl) (obe := xobe) (ose := xose) (otk := xotk) (oy0 := xoy0) (oy1 := xoy1) (oy2 := xoy2) (oy3 := xoy3) (oy4 := xoy4) (oy5 := xoy5) (oy6 := xoy6) (oy7 := xoy7) (oy8 := xoy8) (oy9 := xoy9) (i1 := i1) (i2 := i2) hx_21) mX5_lastStepOf u_505 u_506 u_507 6 rfl rfl 8 [6, 7] [0, 1, 2, 3, 4, 5] rfl (by decide +kernel) rfl rfl rfl rfl (Nat.le_of_ble_eq_true rfl) (Nat.le_of_ble_eq_true rfl) (Nat.le_of_ble_eq_true rfl) (Nat.le_of_ble_eq_true rfl) (Nat.le_of_ble_eq_true rfl) dd_X6_cellNumber_2.2.1 rfl (fun _ _ hp => hp.2) (fun v_22 hp_24 => ?_)
  obtain ⟨rfl, -⟩ := hp_24
  refine xr_st (st' := [.int x_21]) rfl ?_
  obtain rfl := Option.some.inj hR
  exact ret x_21 ⟨rfl, rfl⟩ (Nat.le_of_ble_eq_true rfl) (Nat.le_of_ble_eq_true rfl) dd_X6_cellNumber_2.2.2.1
theorem dd_X6_signOf_0 : dk_R cX6_signOf [(0, .aload_n 0, 1), (1, .getfield 19, 3), (4, .iload_n 1, 1), (5, .iload_n 2, 1), (6, .invokevirtual 286, 3), (9, .istore_n 3, 1), (10, .iload_n 3, 1), (11, .iconst 2, 1), (12, .if_icmp .ne 6, 3), (15, .bipush 120, 2), (17, .ireturn, 1), (18, .iload_n 3, 1), (19, .iconst 1, 1), (20, .if_icmp .ne 6, 3), (23, .bipush 63, 2), (25, .ireturn, 1)] := dk_use _ _ (by decide +kernel)
theorem dd_X6_signOf_1 : dk_R cX6_signOf [(26, .aload_n 0, 1), (27, .getfield 33, 3), (30, .iload_n 1, 1), (31, .iload_n 2, 1), (32, .invokevirtual 301, 3), (35, .ifCond .eq 8, 3), (38, .bipush 111, 2), (40, .goto 5, 3), (43, .bipush 46, 2), (45, .ireturn, 1)] := dk_use _ _ (by decide +kernel)
def fX6_signOf (xwb : Int32) (xwk : Int32) (xobl : Int32) (xoy3 : Int32) (xoy4 : Int32) (i1 : Int32) (i2 : Int32) : Option (Int32) := ((fX0_stateOf xwb xwk i1 i2).bind fun x_1 => (if x_1 = 2 then some 120 else (if x_1 = 1 then some 63 else ((fX5_isInLayout xobl xoy3 xoy4 i1 i2).bind fun x_7 => (if x_7 = 0 then some 46 else some 111)))))
abbrev hX6_signOf : Cond := .code yX6_signOf cX6_signOf 4 (some .char)
theorem mX6_signOf : yM yX6_signOf hX6_signOf 2 := ⟨u_941, u_57, by decide +kernel, by decide +kernel, by decide +kernel⟩
set_option maxHeartbeats 4000000 in
set_option maxRecDepth 100000 in
theorem kX6_signOf (l : Launch) (D : va_G) (cy : Nat → ClassId) (x : Nat) (xj : Nat) (xw : Nat) (xz : Nat) (xo : Nat) (xy : Nat) (xt : Nat) (xwu : Nat) (xwm : Nat) (xwb : Int32) (xwk : Int32) (xoj : Nat) (xoy : Nat) (xosk : Int32) (xoti : Int32) (xofr : Int32) (xofc : Int32) (xobt : Int32) (xobl : Int32) (xobe : Int32) (xose : Int32) (xotk : Int32) (xoy0 : Int32) (xoy1 : Int32) (xoy2 : Int32) (xoy3 : Int32) (xoy4 : Int32) (xoy5 : Int32) (xoy6 : Int32) (xoy7 : Int32) (xoy8 : Int32) (xoy9 : Int32) (i1 : Int32) (i2 : Int32) {res : Int32} (hR : fX6_signOf xwb xwk xobl xoy3 xoy4 i1 i2 = some res) : YM l D cy yX6_signOf hX6_signOf 4 0 0 [.ref x, .int i1, .int i2] [[(x, .inr (8, [.ref xj, .ref xw, .ref xz, .ref xo, .ref xy, .ref xt]))], [(xw, .inr (2, [.ref xwu, .ref xwm, .int xwb, .int xwk]))], [(xo, .inr (7, [.ref xoj, .ref xoy, .int xosk, .int xoti, .int xofr, .int xofc, .int xobt, .int xobl, .int xobe, .int xose, .int xotk]))], [(xoy, .inr (4, [.int xoy0, .int xoy1, .int xoy2, .int xoy3, .int xoy4, .int xoy5, .int xoy6, .int xoy7, .int xoy8, .int xoy9]))]] (fun v u => v = some (.int res) ∧ u = [[(x, .inr (8, [.ref xj, .ref xw, .ref xz, .ref xo, .ref xy, .ref xt]))], [(xw, .inr (2, [.ref xwu, .ref xwm, .int xwb, .int xwk]))], [(xo, .inr (7, [.ref xoj, .ref xoy, .int xosk, .int xoti, .int xofr, .int xofc, .int xobt, .int xobl, .int xobe, .int xose, .int xotk]))], [(xoy, .inr (4, [.int xoy0, .int xoy1, .int xoy2, .int xoy3, .int xoy4, .int xoy5, .int xoy6, .int xoy7, .int xoy8, .int xoy9]))]]) := by
  unfold fX6_signOf at hR
  refine YM.ofZ (cc := cX6_signOf) (maxL := 4) (ret := (some .char)) (by decide +kernel) rfl (Nat.le_of_ble_eq_true rfl) [(0, .ref x), (1, .int i1), (2, .int i2)] rfl .char rfl (fun p e s m args below meth c A H0 Q C hnm ret => ?_)
  refine xr_aload_n (n := 1) (j := 0) C dd_X6_signOf_0.1 rfl rfl ?_
  refine xr_get (n := 4) C 0 rfl rfl 1 (by decide) in_X6 u_290 rfl (v := .ref xw) rfl dd_X6_signOf_0.2.1 rfl ?_
  refine xr_iload_n (n := 5) (j := 1) C dd_X6_signOf_0.2.2.1 rfl rfl ?_
  refine xr_iload_n (n := 6) (j := 2) C dd_X6_signOf_0.2.2.2.1 rfl rfl ?_
  obtain ⟨x_1, hx_1, hR⟩ := yf_b hR
  refine xr_callVp (n := 9) (As := [.int i1, .int i2]) (rest := []) C (kX0_stateOf l D cy (w := xw) (wu := xwu) (wm := xwm) (wb := xwb) (wk := xwk) (i1 := i1) (i2 := i2) hx_1) mX0_stateOf u_481 u_482 u_483 1 rfl rfl 4 [1] [0, 2, 3] rfl (by decide +kernel) rfl rfl rfl rfl (Nat.le_of_ble_eq_true rfl) (Nat.le_of_ble_eq_true rfl) (Nat.le_of_ble_eq_true rfl) (Nat.le_of_ble_eq_true rfl) (Nat.le_of_ble_eq_true rfl) dd_X6_signOf_0.2.2.2.2.1 rfl (fun _ _ hp => hp.2) (fun v_2 hp_4 => ?_)
  obtain ⟨rfl, -⟩ := hp_4
  refine xr_st (st' := [.int x_1]) rfl ?_
  refine xr_istore_n (n := 10) C [(3, .int x_1), (0, .ref x), (1, .int i1), (2, .int i2)] dd_X6_signOf_0.2.2.2.2.2.1 (by decide) rfl rfl ?_
  refine xr_iload_n (n := 11) (j := 0) C dd_X6_signOf_0.2.2.2.2.2.2.1 rfl rfl ?_
  refine xr_iconst (n := 12) (v := 2) C dd_X6_signOf_0.2.2.2.2.2.2.2.1 rfl rfl ?_
  refine xr_icmp_ne (tgt := 18) (n := 15) C dd_X6_signOf_0.2.2.2.2.2.2.2.2.1 rfl rfl (fun c_5 => ?_) (fun c_5 => ?_)
  · replace hR := yf_f c_5 hR
    refine xr_iload_n (n := 19) (j := 0) C dd_X6_signOf_0.2.2.2.2.2.2.2.2.2.2.2.1 rfl rfl ?_
    refine xr_iconst (n := 20) (v := 1) C dd_X6_signOf_0.2.2.2.2.2.2.2.2.2.2.2.2.1 rfl rfl ?_
    refine xr_icmp_ne (tgt := 26) (n := 23) C dd_X6_signOf_0.2.2.2.2.2.2.2.2.2.2.2.2.2.1 rfl rfl (fun c_6 => ?_) (fun c_6 => ?_)
    · replace hR := yf_f c_6 hR
      refine xr_aload_n (n := 27) (j := 1) C dd_X6_signOf_1.1 rfl rfl ?_
      refine xr_get (n := 30) C 0 rfl rfl 3 (by decide) in_X6 u_292 rfl (v := .ref xo) rfl dd_X6_signOf_1.2.1 rfl ?_
      refine xr_iload_n (n := 31) (j := 2) C dd_X6_signOf_1.2.2.1 rfl rfl ?_
      refine xr_iload_n (n := 32) (j := 3) C dd_X6_signOf_1.2.2.2.1 rfl rfl ?_
      obtain ⟨x_7, hx_7, hR⟩ := yf_b hR
      refine xr_callVp (n := 35) (As := [.int i1, .int i2]) (rest := []) C (kX5_isInLayout l D cy (o := xo) (oj := xoj) (oy := xoy) (osk := xosk) (oti := xoti) (ofr := xofr) (ofc := xofc) (obt := xobt) (obl := xobl) (obe := xobe) (ose := xose) (otk := xotk) (oy0 := xoy0) (oy1 := xoy1) (oy2 := xoy2) (oy3 := xoy3) (oy4 := xoy4) (oy5 := xoy5) (oy6 := xoy6) (oy7 := xoy7) (oy8 := xoy8) (oy9 := xoy9) (i1 := i1) (i2 := i2) hx_7) mX5_isInLayout u_942 u_498 u_499 2 rfl rfl 4 [2, 3] [0, 1] rfl (by decide +kernel) rfl rfl rfl rfl (Nat.le_of_ble_eq_true rfl) (Nat.le_of_ble_eq_true rfl) (Nat.le_of_ble_eq_true rfl) (Nat.le_of_ble_eq_true rfl) (Nat.le_of_ble_eq_true rfl) dd_X6_signOf_1.2.2.2.2.1 rfl (fun _ _ hp => hp.2) (fun v_8 hp_10 => ?_)
      obtain ⟨rfl, -⟩ := hp_10
      refine xr_st (st' := [.int x_7]) rfl ?_
      refine xr_if_eq (tgt := 43) (n := 38) C dd_X6_signOf_1.2.2.2.2.2.1 rfl rfl (fun c_11 => ?_) (fun c_11 => ?_)
      · replace hR := yf_t c_11 hR
        refine xr_bipush (n := 45) (v := 46) C dd_X6_signOf_1.2.2.2.2.2.2.2.2.1 rfl rfl ?_
        obtain rfl := Option.some.inj hR
        exact ret 46 (by decide) ⟨rfl, rfl⟩ (Nat.le_of_ble_eq_true rfl) (Nat.le_of_ble_eq_true rfl) dd_X6_signOf_1.2.2.2.2.2.2.2.2.2.1
      · replace hR := yf_f c_11 hR
        refine xr_bipush (n := 40) (v := 111) C dd_X6_signOf_1.2.2.2.2.2.2.1 rfl rfl ?_
        refine xr_goto (tgt := 45) C dd_X6_signOf_1.2.2.2.2.2.2.2.1 rfl ?_
        obtain rfl := Option.some.inj hR
        exact ret 111 (by decide) ⟨rfl, rfl⟩ (Nat.le_of_ble_eq_true rfl) (Nat.le_of_ble_eq_true rfl) dd_X6_signOf_1.2.2.2.2.2.2.2.2.2.1
    · replace hR := yf_t c_6 hR
      refine xr_bipush (n := 25) (v := 63) C dd_X6_signOf_0.2.2.2.2.2.2.2.2.2.2.2.2.2.2.1 rfl rfl ?_
      obtain rfl := Option.some.inj hR
      exact ret 63 (by decide) ⟨rfl, rfl⟩ (Nat.le_of_ble_eq_true rfl) (Nat.le_of_ble_eq_true rfl) dd_X6_signOf_0.2.2.2.2.2.2.2.2.2.2.2.2.2.2.2.1
  · replace hR := yf_t c_5 hR
    refine xr_bipush (n := 17) (v := 120) C dd_X6_signOf_0.2.2.2.2.2.2.2.2.2.1 rfl rfl ?_
    obtain rfl := Option.some.inj hR
    exact ret 120 (by decide) ⟨rfl, rfl⟩ (Nat.le_of_ble_eq_true rfl) (Nat.le_of_ble_eq_true rfl) dd_X6_signOf_0.2.2.2.2.2.2.2.2.2.2.1
theorem dX6_bestNumber_13 : decode cX6_bestNumber 13 = .ok (.tableswitch 63 0 3 #[31, 39, 47, 55], 31) := by decide +kernel
theorem dd_X6_bestNumber_0 : dk_R cX6_bestNumber [(0, .aload_n 0, 1), (1, .getfield 40, 3), (4, .invokevirtual 146, 3), (7, .ifCond .eq 5, 3), (10, .iconst (-1), 1), (11, .ireturn, 1), (12, .iload_n 1, 1), (44, .aload_n 0, 1), (45, .getfield 40, 3), (48, .getfield 304, 3), (51, .ireturn, 1), (52, .aload_n 0, 1), (53, .getfield 40, 3), (56, .getfield 307, 3), (59, .ireturn, 1), (60, .aload_n 0, 1)] := dk_use _ _ (by decide +kernel)
theorem dd_X6_bestNumber_1 : dk_R cX6_bestNumber [(61, .getfield 40, 3), (64, .getfield 308, 3), (67, .ireturn, 1), (68, .aload_n 0, 1), (69, .getfield 40, 3), (72, .invokevirtual 309, 3), (75, .ireturn, 1), (76, .aload_n 0, 1), (77, .getfield 40, 3), (80, .invokevirtual 312, 3), (83, .ireturn, 1)] := dk_use _ _ (by decide +kernel)
def fX6_bestNumber (xy0 : Int32) (xy1 : Int32) (xy2 : Int32) (xy3 : Int32) (xy4 : Int32) (xy7 : Int32) (xy8 : Int32) (xy9 : Int32) (i1 : Int32) : Option (Int32) := ((fX2_isEmpty xy3 xy4).bind fun x_1 => (if x_1 = 0 then (if i1 = 0 then some xy9 else (if i1 = 1 then some xy3 else (if i1 = 2 then some xy4 else (if i1 = 3 then ((fX2_countTiles xy7 xy8).bind fun x_10 => some x_10) else ((fX2_countFed xy0 xy1 xy2 xy7 xy8).bind fun x_14 => some x_14))))) else some (-1)))
abbrev hX6_bestNumber : Cond := .code yX6_bestNumber cX6_bestNumber 2 (some .int)
theorem mX6_bestNumber : yM yX6_bestNumber hX6_bestNumber 1 := ⟨u_545, u_57, by decide +kernel, by decide +kernel, by decide +kernel⟩
set_option maxHeartbeats 4000000 in
set_option maxRecDepth 100000 in
theorem kX6_bestNumber (l : Launch) (D : va_G) (cy : Nat → ClassId) (x : Nat) (xj : Nat) (xw : Nat) (xz : Nat) (xo : Nat) (xy : Nat) (xt : Nat) (xy0 : Int32) (xy1 : Int32) (xy2 : Int32) (xy3 : Int32) (xy4 : Int32) (xy5 : Int32) (xy6 : Int32) (xy7 : Int32) (xy8 : Int32) (xy9 : Int32) (i1 : Int32) {res : Int32} (hR : fX6_bestNumber xy0 xy1 xy2 xy3 xy4 xy7 xy8 xy9 i1 = some res) : YM l D cy yX6_bestNumber hX6_bestNumber 3 0 0 [.ref x, .int i1] [[(x, .inr (8, [.ref xj, .ref xw, .ref xz, .ref xo, .ref xy, .ref xt]))], [(xy, .inr (4, [.int xy0, .int xy1, .int xy2, .int xy3, .int xy4, .int xy5, .int xy6, .int xy7, .int xy8, .int xy9]))]] (fun v u => v = some (.int res) ∧ u = [[(x, .inr (8, [.ref xj, .ref xw, .ref xz, .ref xo, .ref xy, .ref xt]))], [(xy, .inr (4, [.int xy0, .int xy1, .int xy2, .int xy3, .int xy4, .int xy5, .int xy6, .int xy7, .int xy8, .int xy9]))]]) := by
  unfold fX6_bestNumber at hR
  refine YM.ofI (cc := cX6_bestNumber) (maxL := 2) (ret := (some .int)) (by decide +kernel) rfl (Nat.le_of_ble_eq_true rfl) [(0, .ref x), (1, .int i1)] rfl rfl (fun p e s m args below meth c A H0 Q C hnm ret => ?_)
  refine xr_aload_n (n := 1) (j := 0) C dd_X6_bestNumber_0.1 rfl rfl ?_
  refine xr_get (n := 4) C 0 rfl rfl 4 (by decide) in_X6 u_293 rfl (v := .ref xy) rfl dd_X6_bestNumber_0.2.1 rfl ?_
  obtain ⟨x_1, hx_1, hR⟩ := yf_b hR
  refine xr_callVp (n := 7) (As := []) (rest := []) C (kX2_isEmpty l D cy (y := xy) (y0 := xy0) (y1 := xy1) (y2 := xy2) (y3 := xy3) (y4 := xy4) (y5 := xy5) (y6 := xy6) (y7 := xy7) (y8 := xy8) (y9 := xy9) hx_1) mX2_isEmpty u_378 u_379 u_380 1 rfl rfl 2 [1] [0] rfl (by decide +kernel) rfl rfl rfl rfl (Nat.le_of_ble_eq_true rfl) (Nat.le_of_ble_eq_true rfl) (Nat.le_of_ble_eq_true rfl) (Nat.le_of_ble_eq_true rfl) (Nat.le_of_ble_eq_true rfl) dd_X6_bestNumber_0.2.2.1 rfl (fun _ _ hp => hp.2) (fun v_2 hp_4 => ?_)
  obtain ⟨rfl, -⟩ := hp_4
  refine xr_st (st' := [.int x_1]) rfl ?_
  refine xr_if_eq (tgt := 12) (n := 10) C dd_X6_bestNumber_0.2.2.2.1 rfl rfl (fun c_5 => ?_) (fun c_5 => ?_)
  · replace hR := yf_t c_5 hR
    refine xr_iload_n (n := 13) (j := 1) C dd_X6_bestNumber_0.2.2.2.2.2.2.1 rfl rfl ?_
    by_cases c_6 : i1 = 0
    · replace hR := yf_t c_6 hR
      refine xr_tableIn (off := 31) (tgt := 44) C dX6_bestNumber_13 (by rw [c_6]; decide) (by rw [c_6]; decide) (by rw [c_6]; decide) rfl ?_
      refine xr_aload_n (n := 45) (j := 0) C dd_X6_bestNumber_0.2.2.2.2.2.2.2.1 rfl rfl ?_
      refine xr_get (n := 48) C 0 rfl rfl 4 (by decide) in_X6 u_293 rfl (v := .ref xy) rfl dd_X6_bestNumber_0.2.2.2.2.2.2.2.2.1 rfl ?_
      refine xr_getN (n := 51) C 1 rfl rfl 9 (by decide) in_X2 RX6 (List.mem_of_getElem? (i := 38) rfl) rfl (v := .int xy9) rfl dd_X6_bestNumber_0.2.2.2.2.2.2.2.2.2.1 rfl ?_
      obtain rfl := Option.some.inj hR
      exact ret xy9 ⟨rfl, rfl⟩ (Nat.le_of_ble_eq_true rfl) (Nat.le_of_ble_eq_true rfl) dd_X6_bestNumber_0.2.2.2.2.2.2.2.2.2.2.1
    replace hR := yf_f c_6 hR
    by_cases c_7 : i1 = 1
    · replace hR := yf_t c_7 hR
      refine xr_tableIn (off := 39) (tgt := 52) C dX6_bestNumber_13 (by rw [c_7]; decide) (by rw [c_7]; decide) (by rw [c_7]; decide) rfl ?_
      refine xr_aload_n (n := 53) (j := 0) C dd_X6_bestNumber_0.2.2.2.2.2.2.2.2.2.2.2.1 rfl rfl ?_
      refine xr_get (n := 56) C 0 rfl rfl 4 (by decide) in_X6 u_293 rfl (v := .ref xy) rfl dd_X6_bestNumber_0.2.2.2.2.2.2.2.2.2.2.2.2.1 rfl ?_
      refine xr_getN (n := 59) C 1 rfl rfl 3 (by decide) in_X2 RX6 (List.mem_of_getElem? (i := 32) rfl) rfl (v := .int xy3) rfl dd_X6_bestNumber_0.2.2.2.2.2.2.2.2.2.2.2.2.2.1 rfl ?_
      obtain rfl := Option.some.inj hR
      exact ret xy3 ⟨rfl, rfl⟩ (Nat.le_of_ble_eq_true rfl) (Nat.le_of_ble_eq_true rfl) dd_X6_bestNumber_0.2.2.2.2.2.2.2.2.2.2.2.2.2.2.1
    replace hR := yf_f c_7 hR
    by_cases c_8 : i1 = 2
    · replace hR := yf_t c_8 hR
      refine xr_tableIn (off := 47) (tgt := 60) C dX6_bestNumber_13 (by rw [c_8]; decide) (by rw [c_8]; decide) (by rw [c_8]; decide) rfl ?_
      refine xr_aload_n (n := 61) (j := 0) C dd_X6_bestNumber_0.2.2.2.2.2.2.2.2.2.2.2.2.2.2.2.1 rfl rfl ?_
      refine xr_get (n := 64) C 0 rfl rfl 4 (by decide) in_X6 u_293 rfl (v := .ref xy) rfl dd_X6_bestNumber_1.1 rfl ?_
      refine xr_getN (n := 67) C 1 rfl rfl 4 (by decide) in_X2 RX6 (List.mem_of_getElem? (i := 34) rfl) rfl (v := .int xy4) rfl dd_X6_bestNumber_1.2.1 rfl ?_
      obtain rfl := Option.some.inj hR
      exact ret xy4 ⟨rfl, rfl⟩ (Nat.le_of_ble_eq_true rfl) (Nat.le_of_ble_eq_true rfl) dd_X6_bestNumber_1.2.2.1
    replace hR := yf_f c_8 hR
    by_cases c_9 : i1 = 3
    · replace hR := yf_t c_9 hR
      refine xr_tableIn (off := 55) (tgt := 68) C dX6_bestNumber_13 (by rw [c_9]; decide) (by rw [c_9]; decide) (by rw [c_9]; decide) rfl ?_
      refine xr_aload_n (n := 69) (j := 0) C dd_X6_bestNumber_1.2.2.2.1 rfl rfl ?_
      refine xr_get (n := 72) C 0 rfl rfl 4 (by decide) in_X6 u_293 rfl (v := .ref xy) rfl dd_X6_bestNumber_1.2.2.2.2.1 rfl ?_
      obtain ⟨x_10, hx_10, hR⟩ := yf_b hR
      refine xr_callVp (n := 75) (As := []) (rest := []) C (kX2_countTiles l D cy (y := xy) (y0 := xy0) (y1 := xy1) (y2 := xy2) (y3 := xy3) (y4 := xy4) (y5 := xy5) (y6 := xy6) (y7 := xy7) (y8 := xy8) (y9 := xy9) hx_10) mX2_countTiles u_390 u_367 u_368 1 rfl rfl 2 [1] [0] rfl (by decide +kernel) rfl rfl rfl rfl (Nat.le_of_ble_eq_true rfl) (Nat.le_of_ble_eq_true rfl) (Nat.le_of_ble_eq_true rfl) (Nat.le_of_ble_eq_true rfl) (Nat.le_of_ble_eq_true rfl) dd_X6_bestNumber_1.2.2.2.2.2.1 rfl (fun _ _ hp => hp.2) (fun v_11 hp_13 => ?_)
      obtain ⟨rfl, -⟩ := hp_13
      refine xr_st (st' := [.int x_10]) rfl ?_
      obtain rfl := Option.some.inj hR
      exact ret x_10 ⟨rfl, rfl⟩ (Nat.le_of_ble_eq_true rfl) (Nat.le_of_ble_eq_true rfl) dd_X6_bestNumber_1.2.2.2.2.2.2.1
    replace hR := yf_f c_9 hR
    refine xr_tableOut (tgt := 76) C dX6_bestNumber_13 (ytab_out (fun k h1 h2 => by
      rcases (show k = 0 ∨ k = 1 ∨ k = 2 ∨ k = 3 by omega) with rfl | rfl | rfl | rfl
      · exact c_6
      · exact c_7
      · exact c_8
      · exact c_9)) rfl ?_
    refine xr_aload_n (n := 77) (j := 0) C dd_X6_bestNumber_1.2.2.2.2.2.2.2.1 rfl rfl ?_
    refine xr_get (n := 80) C 0 rfl rfl 4 (by decide) in_X6 u_293 rfl (v := .ref xy) rfl dd_X6_bestNumber_1.2.2.2.2.2.2.2.2.1 rfl ?_
    obtain ⟨x_14, hx_14, hR⟩ := yf_b hR
    refine xr_callVp (n := 83) (As := []) (rest := []) C (kX2_countFed l D cy (y := xy) (y0 := xy0) (y1 := xy1) (y2 := xy2) (y3 := xy3) (y4 := xy4) (y5 := xy5) (y6 := xy6) (y7 := xy7) (y8 := xy8) (y9 := xy9) hx_14) mX2_countFed u_546 u_547 u_548 1 rfl rfl 2 [1] [0] rfl (by decide +kernel) rfl rfl rfl rfl (Nat.le_of_ble_eq_true rfl) (Nat.le_of_ble_eq_true rfl) (Nat.le_of_ble_eq_true rfl) (Nat.le_of_ble_eq_true rfl) (Nat.le_of_ble_eq_true rfl) dd_X6_bestNumber_1.2.2.2.2.2.2.2.2.2.1 rfl (fun _ _ hp => hp.2) (fun v_15 hp_17 => ?_)
    obtain ⟨rfl, -⟩ := hp_17
    refine xr_st (st' := [.int x_14]) rfl ?_
    obtain rfl := Option.some.inj hR
    exact ret x_14 ⟨rfl, rfl⟩ (Nat.le_of_ble_eq_true rfl) (Nat.le_of_ble_eq_true rfl) dd_X6_bestNumber_1.2.2.2.2.2.2.2.2.2.2.1
  · replace hR := yf_f c_5 hR
    refine xr_iconst (n := 11) (v := -1) C dd_X6_bestNumber_0.2.2.2.2.1 rfl rfl ?_
    obtain rfl := Option.some.inj hR
    exact ret (-1) ⟨rfl, rfl⟩ (Nat.le_of_ble_eq_true rfl) (Nat.le_of_ble_eq_true rfl) dd_X6_bestNumber_0.2.2.2.2.2.1
theorem dd_X6_savedBeats_0 : dk_R cX6_savedBeats [(0, .aload_n 0, 1), (1, .getfield 40, 3), (4, .invokevirtual 309, 3), (7, .aload_n 0, 1), (8, .getfield 10, 3), (11, .getfield 66, 3), (14, .aload_n 0, 1), (15, .getfield 40, 3), (18, .getfield 315, 3), (21, .isub, 1), (22, .imul, 1), (23, .ireturn, 1)] := dk_use _ _ (by decide +kernel)
def fX6_savedBeats (xjk : Int32) (xy2 : Int32) (xy7 : Int32) (xy8 : Int32) : Option (Int32) := ((fX2_countTiles xy7 xy8).bind fun x_1 => some (x_1 * (xjk - xy2)))
abbrev hX6_savedBeats : Cond := .code yX6_savedBeats cX6_savedBeats 1 (some .int)
theorem mX6_savedBeats : yM yX6_savedBeats hX6_savedBeats 0 := ⟨u_389, u_57, by decide +kernel, by decide +kernel, by decide +kernel⟩
set_option maxHeartbeats 4000000 in
set_option maxRecDepth 100000 in
theorem kX6_savedBeats (l : Launch) (D : va_G) (cy : Nat → ClassId) (x : Nat) (xj : Nat) (xw : Nat) (xz : Nat) (xo : Nat) (xy : Nat) (xt : Nat) (xja : Nat) (xjb : Nat) (xjr : Int32) (xjk : Int32) (xjc : Int32) (xjg : Int32) (xjs : Int32) (xy0 : Int32) (xy1 : Int32) (xy2 : Int32) (xy3 : Int32) (xy4 : Int32) (xy5 : Int32) (xy6 : Int32) (xy7 : Int32) (xy8 : Int32) (xy9 : Int32) {res : Int32} (hR : fX6_savedBeats xjk xy2 xy7 xy8 = some res) : YM l D cy yX6_savedBeats hX6_savedBeats 2 0 0 [.ref x] [[(x, .inr (8, [.ref xj, .ref xw, .ref xz, .ref xo, .ref xy, .ref xt]))], [(xj, .inr (3, [.ref xja, .ref xjb, .int xjr, .int xjk, .int xjc, .int xjg, .int xjs]))], [(xy, .inr (4, [.int xy0, .int xy1, .int xy2, .int xy3, .int xy4, .int xy5, .int xy6, .int xy7, .int xy8, .int xy9]))]] (fun v u => v = some (.int res) ∧ u = [[(x, .inr (8, [.ref xj, .ref xw, .ref xz, .ref xo, .ref xy, .ref xt]))], [(xj, .inr (3, [.ref xja, .ref xjb, .int xjr, .int xjk, .int xjc, .int xjg, .int xjs]))], [(xy, .inr (4, [.int xy0, .int xy1, .int xy2, .int xy3, .int xy4, .int xy5, .int xy6, .int xy7, .int xy8, .int xy9]))]]) := by
  unfold fX6_savedBeats at hR
  refine YM.ofI (cc := cX6_savedBeats) (maxL := 1) (ret := (some .int)) (by decide +kernel) rfl (Nat.le_of_ble_eq_true rfl) [(0, .ref x)] rfl rfl (fun p e s m args below meth c A H0 Q C hnm ret => ?_)
  refine xr_aload_n (n := 1) (j := 0) C dd_X6_savedBeats_0.1 rfl rfl ?_
  refine xr_get (n := 4) C 0 rfl rfl 4 (by decide) in_X6 u_293 rfl (v := .ref xy) rfl dd_X6_savedBeats_0.2.1 rfl ?_
  obtain ⟨x_1, hx_1, hR⟩ := yf_b hR
  refine xr_callVp (n := 7) (As := []) (rest := []) C (kX2_countTiles l D cy (y := xy) (y0 := xy0) (y1 := xy1) (y2 := xy2) (y3 := xy3) (y4 := xy4) (y5 := xy5) (y6 := xy6) (y7 := xy7) (y8 := xy8) (y9 := xy9) hx_1) mX2_countTiles u_390 u_367 u_368 2 rfl rfl 3 [2] [0, 1] rfl (by decide +kernel) rfl rfl rfl rfl (Nat.le_of_ble_eq_true rfl) (Nat.le_of_ble_eq_true rfl) (Nat.le_of_ble_eq_true rfl) (Nat.le_of_ble_eq_true rfl) (Nat.le_of_ble_eq_true rfl) dd_X6_savedBeats_0.2.2.1 rfl (fun _ _ hp => hp.2) (fun v_2 hp_4 => ?_)
  obtain ⟨rfl, -⟩ := hp_4
  refine xr_st (st' := [.int x_1]) rfl ?_
  refine xr_aload_n (n := 8) (j := 0) C dd_X6_savedBeats_0.2.2.2.1 rfl rfl ?_
  refine xr_get (n := 11) C 0 rfl rfl 0 (by decide) in_X6 u_289 rfl (v := .ref xj) rfl dd_X6_savedBeats_0.2.2.2.2.1 rfl ?_
  refine xr_getN (n := 14) C 1 rfl rfl 3 (by decide) in_X1 RX6 (List.mem_of_getElem? (i := 5) rfl) rfl (v := .int xjk) rfl dd_X6_savedBeats_0.2.2.2.2.2.1 rfl ?_
  refine xr_aload_n (n := 15) (j := 0) C dd_X6_savedBeats_0.2.2.2.2.2.2.1 rfl rfl ?_
  refine xr_get (n := 18) C 0 rfl rfl 4 (by decide) in_X6 u_293 rfl (v := .ref xy) rfl dd_X6_savedBeats_0.2.2.2.2.2.2.2.1 rfl ?_
  refine xr_getN (n := 21) C 2 rfl rfl 2 (by decide) in_X2 RX6 (List.mem_of_getElem? (i := 30) rfl) rfl (v := .int xy2) rfl dd_X6_savedBeats_0.2.2.2.2.2.2.2.2.1 rfl ?_
  refine xr_isub (n := 22) C dd_X6_savedBeats_0.2.2.2.2.2.2.2.2.2.1 rfl ?_
  refine xr_imul (n := 23) C dd_X6_savedBeats_0.2.2.2.2.2.2.2.2.2.2.1 rfl ?_
  obtain rfl := Option.some.inj hR
  exact ret (x_1 * (xjk - xy2)) ⟨rfl, rfl⟩ (Nat.le_of_ble_eq_true rfl) (Nat.le_of_ble_eq_true rfl) dd_X6_savedBeats_0.2.2.2.2.2.2.2.2.2.2.2.1
theorem dd_X6_mesh_0 : dk_R cX6_mesh [(0, .iload_n 1, 1), (1, .ifCond .lt 9, 3), (4, .iload_n 1, 1), (5, .bipush 15, 2), (7, .if_icmp .le 13, 3), (10, .new 47, 3), (13, .dup, 1), (14, .ldc 190, 2), (16, .invokespecial 51, 3), (19, .athrow, 1), (20, .aload_n 0, 1), (21, .iload_n 1, 1), (22, .invokevirtual 192, 3), (25, .ireturn, 1)] := dk_use _ _ (by decide +kernel)
def fX6_mesh (xjr : Int32) (xjk : Int32) (xjc : Int32) (xjg : Int32) (xjs : Int32) (xjaf : Nat → Int32) (xjbf : Nat → Int32) (xwb : Int32) (xwk : Int32) (xzr : Int32) (xzc : Int32) (xoti : Int32) (xobl : Int32) (xobe : Int32) (xose : Int32) (i1 : Int32) : Option (Nat ⊕ Int32) := (if i1 < 0 then some (.inl 0) else (if i1 ≤ 15 then ((fX6_meshNumber xjr xjk xjc xjg xjs xjaf xjbf xwb xwk xzr xzc xoti xobl xobe xose i1).bind fun x_3 => some (.inr x_3)) else some (.inl 0)))
abbrev hX6_mesh : Cond := .code yX6_mesh cX6_mesh 2 (some .int)
theorem mX6_mesh : yM yX6_mesh hX6_mesh 1 := ⟨u_874, u_57, by decide +kernel, by decide +kernel, by decide +kernel⟩
set_option maxHeartbeats 4000000 in
set_option maxRecDepth 100000 in
theorem kX6_mesh (l : Launch) (D : va_G) (cy : Nat → ClassId) (hl0 : l.stackTraces = false) (x : Nat) (xj : Nat) (xw : Nat) (xz : Nat) (xo : Nat) (xy : Nat) (xt : Nat) (xja : Nat) (xjb : Nat) (xjr : Int32) (xjk : Int32) (xjc : Int32) (xjg : Int32) (xjs : Int32) (xjan : Nat) (xjaf : Nat → Int32) (xjbn : Nat) (xjbf : Nat → Int32) (xwu : Nat) (xwm : Nat) (xwb : Int32) (xwk : Int32) (xzv : Nat) (xzr : Int32) (xzc : Int32) (xzs : Int32) (xoj : Nat) (xoy : Nat) (xosk : Int32) (xoti : Int32) (xofr : Int32) (xofc : Int32) (xobt : Int32) (xobl : Int32) (xobe : Int32) (xose : Int32) (xotk : Int32) (i1 : Int32) {res : Nat ⊕ Int32} (hR : fX6_mesh xjr xjk xjc xjg xjs xjaf xjbf xwb xwk xzr xzc xoti xobl xobe xose i1 = some res) : YX l D cy yX6_mesh hX6_mesh 6 1 6 [.ref x, .int i1] [[(x, .inr (8, [.ref xj, .ref xw, .ref xz, .ref xo, .ref xy, .ref xt]))], [(xj, .inr (3, [.ref xja, .ref xjb, .int xjr, .int xjk, .int xjc, .int xjg, .int xjs]))], [(xja, .inr (6, [.ref xjan]))], [(xjan, .inl (cy 1, 81, .inl xjaf))], [(xjb, .inr (6, [.ref xjbn]))], [(xjbn, .inl (cy 1, 81, .inl xjbf))], [(xw, .inr (2, [.ref xwu, .ref xwm, .int xwb, .int xwk]))], [(xz, .inr (5, [.ref xzv, .int xzr, .int xzc, .int xzs]))], [(xo, .inr (7, [.ref xoj, .ref xoy, .int xosk, .int xoti, .int xofr, .int xofc, .int xobt, .int xobl, .int xobe, .int xose, .int xotk]))]] (fun v u => ∃ r, res = .inr r ∧ v = some (.int r) ∧ u = [[(x, .inr (8, [.ref xj, .ref xw, .ref xz, .ref xo, .ref xy, .ref xt]))], [(xj, .inr (3, [.ref xja, .ref xjb, .int xjr, .int xjk, .int xjc, .int xjg, .int xjs]))], [(xja, .inr (6, [.ref xjan]))], [(xjan, .inl (cy 1, 81, .inl xjaf))], [(xjb, .inr (6, [.ref xjbn]))], [(xjbn, .inl (cy 1, 81, .inl xjbf))], [(xw, .inr (2, [.ref xwu, .ref xwm, .int xwb, .int xwk]))], [(xz, .inr (5, [.ref xzv, .int xzr, .int xzc, .int xzs]))], [(xo, .inr (7, [.ref xoj, .ref xoy, .int xosk, .int xoti, .int xofr, .int xofc, .int xobt, .int xobl, .int xobe, .int xose, .int xotk]))]]) (fun E u => ∃ r, res = .inl r ∧ E = yE r ∧ u = [[(x, .inr (8, [.ref xj, .ref xw, .ref xz, .ref xo, .ref xy, .ref xt]))], [(xj, .inr (3, [.ref xja, .ref xjb, .int xjr, .int xjk, .int xjc, .int xjg, .int xjs]))], [(xja, .inr (6, [.ref xjan]))], [(xjan, .inl (cy 1, 81, .inl xjaf))], [(xjb, .inr (6, [.ref xjbn]))], [(xjbn, .inl (cy 1, 81, .inl xjbf))], [(xw, .inr (2, [.ref xwu, .ref xwm, .int xwb, .int xwk]))], [(xz, .inr (5, [.ref xzv, .int xzr, .int xzc, .int xzs]))], [(xo, .inr (7, [.ref xoj, .ref xoy, .int xosk, .int xoti, .int xofr, .int xofc, .int xobt, .int xobl, .int xobe, .int xose, .int xotk]))]]) := by
  unfold fX6_mesh at hR
  refine YX.ofI (cc := cX6_mesh) (maxL := 2) (ret := (some .int)) hl0 (by decide +kernel) rfl (Nat.le_of_ble_eq_true rfl) [(0, .ref x), (1, .int i1)] rfl rfl (fun p e s m args below meth c A H0 Q C ret thr => ?_)
  refine xr_iload_n (n := 1) (j := 1) C dd_X6_mesh_0.1 rfl rfl ?_
  refine xr_if_lt (tgt := 10) (n := 4) C dd_X6_mesh_0.2.1 rfl rfl (fun c_1 => ?_) (fun c_1 => ?_)
  · replace hR := yf_t c_1 hR
    obtain rfl := Option.some.inj hR
    exact thr "java/lang/IllegalArgumentException" "what is 0 to 15" 47 190 51 yt_X6_190 ⟨_, rfl, rfl, rfl⟩ (Nat.le_of_ble_eq_true rfl) (Nat.le_of_ble_eq_true rfl) (Nat.le_of_ble_eq_true rfl) (Nat.le_of_ble_eq_true rfl) dd_X6_mesh_0.2.2.2.2.2.1 dd_X6_mesh_0.2.2.2.2.2.2.1 dd_X6_mesh_0.2.2.2.2.2.2.2.1 dd_X6_mesh_0.2.2.2.2.2.2.2.2.1 dd_X6_mesh_0.2.2.2.2.2.2.2.2.2.1
  · replace hR := yf_f c_1 hR
    refine xr_iload_n (n := 5) (j := 1) C dd_X6_mesh_0.2.2.1 rfl rfl ?_
    refine xr_bipush (n := 7) (v := 15) C dd_X6_mesh_0.2.2.2.1 rfl rfl ?_
    refine xr_icmp_le (tgt := 20) (n := 10) C dd_X6_mesh_0.2.2.2.2.1 rfl rfl (fun c_2 => ?_) (fun c_2 => ?_)
    · replace hR := yf_t c_2 hR
      refine xr_aload_n (n := 21) (j := 0) C dd_X6_mesh_0.2.2.2.2.2.2.2.2.2.2.1 rfl rfl ?_
      refine xr_iload_n (n := 22) (j := 1) C dd_X6_mesh_0.2.2.2.2.2.2.2.2.2.2.2.1 rfl rfl ?_
      obtain ⟨x_3, hx_3, hR⟩ := yf_b hR
      refine xr_callVp (n := 25) (As := [.int i1]) (rest := []) C (kX6_meshNumber l D cy (x := x) (xj := xj) (xw := xw) (xz := xz) (xo := xo) (xy := xy) (xt := xt) (xja := xja) (xjb := xjb) (xjr := xjr) (xjk := xjk) (xjc := xjc) (xjg := xjg) (xjs := xjs) (xjan := xjan) (xjaf := xjaf) (xjbn := xjbn) (xjbf := xjbf) (xwu := xwu) (xwm := xwm) (xwb := xwb) (xwk := xwk) (xzv := xzv) (xzr := xzr) (xzc := xzc) (xzs := xzs) (xoj := xoj) (xoy := xoy) (xosk := xosk) (xoti := xoti) (xofr := xofr) (xofc := xofc) (xobt := xobt) (xobl := xobl) (xobe := xobe) (xose := xose) (xotk := xotk) (i1 := i1) hx_3) mX6_meshNumber u_461 u_463 u_13 0 rfl rfl 9 [0, 1, 2, 3, 4, 5, 6, 7, 8] [] rfl (by decide +kernel) rfl rfl rfl rfl (Nat.le_of_ble_eq_true rfl) (Nat.le_of_ble_eq_true rfl) (Nat.le_of_ble_eq_true rfl) (Nat.le_of_ble_eq_true rfl) (Nat.le_of_ble_eq_true rfl) dd_X6_mesh_0.2.2.2.2.2.2.2.2.2.2.2.2.1 rfl (fun _ _ hp => hp.2) (fun v_4 hp_6 => ?_)
      obtain ⟨rfl, -⟩ := hp_6
      refine xr_st (st' := [.int x_3]) rfl ?_
      obtain rfl := Option.some.inj hR
      exact ret x_3 ⟨_, rfl, rfl, rfl⟩ (Nat.le_of_ble_eq_true rfl) (Nat.le_of_ble_eq_true rfl) dd_X6_mesh_0.2.2.2.2.2.2.2.2.2.2.2.2.2.1
    · replace hR := yf_f c_2 hR
      obtain rfl := Option.some.inj hR
      exact thr "java/lang/IllegalArgumentException" "what is 0 to 15" 47 190 51 yt_X6_190 ⟨_, rfl, rfl, rfl⟩ (Nat.le_of_ble_eq_true rfl) (Nat.le_of_ble_eq_true rfl) (Nat.le_of_ble_eq_true rfl) (Nat.le_of_ble_eq_true rfl) dd_X6_mesh_0.2.2.2.2.2.1 dd_X6_mesh_0.2.2.2.2.2.2.1 dd_X6_mesh_0.2.2.2.2.2.2.2.1 dd_X6_mesh_0.2.2.2.2.2.2.2.2.1 dd_X6_mesh_0.2.2.2.2.2.2.2.2.2.1
