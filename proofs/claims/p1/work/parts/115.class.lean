theorem u_402 : Cond.code yX6_isBestSound cX6_isBestSound 4 (some .boolean) ∈ yU := yu_tables_1_2 106 (by decide +kernel) (by decide +kernel)
theorem u_420 : Cond.methodLink RX6 347 yX0_sumOfUses ∈ yU := yu_tables_1_2 124 (by decide +kernel) (by decide +kernel)
theorem u_421 : Cond.instanceMethod yX0_sumOfUses ∈ yU := yu_tables_1_2 125 (by decide +kernel) (by decide +kernel)
theorem u_422 : Cond.selects RX0 yX0_sumOfUses yX0_sumOfUses ∈ yU := yu_tables_1_2 126 (by decide +kernel) (by decide +kernel)
theorem u_425 : Cond.methodLink RX6 353 yX5_takenInTile ∈ yU := yu_tables_1_2 129 (by decide +kernel) (by decide +kernel)
theorem u_426 : Cond.instanceMethod yX5_takenInTile ∈ yU := yu_tables_1_2 130 (by decide +kernel) (by decide +kernel)
theorem u_427 : Cond.selects RX5 yX5_takenInTile yX5_takenInTile ∈ yU := yu_tables_1_2 131 (by decide +kernel) (by decide +kernel)
theorem u_419 : Cond.code yX6_doUsesAddUp cX6_doUsesAddUp 1 (some .boolean) ∈ yU := yu_tables_1_2 123 (by decide +kernel) (by decide +kernel)
theorem u_399 : Cond.methodLink RX6 335 yX6_isBestSound ∈ yU := yu_tables_1_2 103 (by decide +kernel) (by decide +kernel)
theorem u_401 : Cond.instanceMethod yX6_isBestSound ∈ yU := yu_tables_1_2 105 (by decide +kernel) (by decide +kernel)
theorem u_7 : Cond.selects RX6 yX6_isBestSound yX6_isBestSound ∈ yU := yu 7 (by decide +kernel) (by decide +kernel)
theorem u_412 : Cond.methodLink RX6 338 yX0_areKnownBroken ∈ yU := yu_tables_1_2 116 (by decide +kernel) (by decide +kernel)
theorem u_413 : Cond.instanceMethod yX0_areKnownBroken ∈ yU := yu_tables_1_2 117 (by decide +kernel) (by decide +kernel)
theorem u_414 : Cond.selects RX0 yX0_areKnownBroken yX0_areKnownBroken ∈ yU := yu_tables_1_2 118 (by decide +kernel) (by decide +kernel)
theorem u_416 : Cond.methodLink RX6 341 yX6_doUsesAddUp ∈ yU := yu_tables_1_2 120 (by decide +kernel) (by decide +kernel)
theorem u_418 : Cond.instanceMethod yX6_doUsesAddUp ∈ yU := yu_tables_1_2 122 (by decide +kernel) (by decide +kernel)
theorem u_9 : Cond.selects RX6 yX6_doUsesAddUp yX6_doUsesAddUp ∈ yU := yu 9 (by decide +kernel) (by decide +kernel)
theorem u_447 : Cond.methodLink RX6 344 yX5_isUnfinished ∈ yU := yu_tables_1_2 151 (by decide +kernel) (by decide +kernel)
theorem u_448 : Cond.instanceMethod yX5_isUnfinished ∈ yU := yu_tables_1_2 152 (by decide +kernel) (by decide +kernel)
theorem u_449 : Cond.selects RX5 yX5_isUnfinished yX5_isUnfinished ∈ yU := yu_tables_1_2 153 (by decide +kernel) (by decide +kernel)
theorem u_398 : Cond.code yX6_isAllSound cX6_isAllSound 1 (some .boolean) ∈ yU := yu_tables_1_2 102 (by decide +kernel) (by decide +kernel)
theorem u_395 : Cond.methodLink RX6 246 yX6_isAllSound ∈ yU := yu_tables_1_2 99 (by decide +kernel) (by decide +kernel)
theorem u_397 : Cond.instanceMethod yX6_isAllSound ∈ yU := yu_tables_1_2 101 (by decide +kernel) (by decide +kernel)
theorem u_6 : Cond.selects RX6 yX6_isAllSound yX6_isAllSound ∈ yU := yu 6 (by decide +kernel) (by decide +kernel)
theorem u_394 : Cond.code yX6_isSound cX6_isSound 1 (some .boolean) ∈ yU := yu_tables_1_2 98 (by decide +kernel) (by decide +kernel)
theorem u_472 : Cond.constantLong RX6 356 (31) ∈ yU := yu_tables_1_2 176 (by decide +kernel) (by decide +kernel)
theorem u_471 : Cond.code yX6_mix cX6_mix 3 (some .long) ∈ yU := yu_tables_1_2 175 (by decide +kernel) (by decide +kernel)
theorem u_469 : Cond.methodLink RX6 251 yX6_mix ∈ yU := yu_tables_1_2 173 (by decide +kernel) (by decide +kernel)
theorem u_470 : Cond.static yX6_mix ∈ yU := yu_tables_1_2 174 (by decide +kernel) (by decide +kernel)
theorem u_476 : Cond.code yX6_mixCells cX6_mixCells 8 (some .long) ∈ yU := yu_tables_1_2 180 (by decide +kernel) (by decide +kernel)
theorem dd_X6_isBestSound_0 : dk_R cX6_isBestSound [(0, .aload_n 0, 1), (1, .getfield 40, 3), (4, .invokevirtual 146, 3), (7, .ifCond .ne 29, 3), (10, .aload_n 0, 1), (11, .getfield 19, 3), (14, .aload_n 0, 1), (15, .getfield 40, 3), (18, .getfield 307, 3), (21, .aload_n 0, 1), (22, .getfield 40, 3), (25, .getfield 308, 3), (28, .invokevirtual 332, 3), (31, .ifCond .eq 5, 3), (34, .iconst 0, 1), (35, .ireturn, 1)] := dk_use _ _ (by decide +kernel)
theorem dd_X6_isBestSound_1 : dk_R cX6_isBestSound [(36, .iconst 1, 1), (37, .istore_n 1, 1), (38, .iload_n 1, 1), (39, .bipush 31, 2), (41, .if_icmp .gt 58, 3), (44, .iconst 1, 1), (45, .istore_n 2, 1), (46, .iload_n 2, 1), (47, .bipush 31, 2), (49, .if_icmp .gt 44, 3), (52, .aload_n 0, 1), (53, .iload_n 1, 1), (54, .iload_n 2, 1), (55, .invokevirtual 235, 3), (58, .istore_n 3, 1), (59, .iload_n 3, 1)] := dk_use _ _ (by decide +kernel)
theorem dd_X6_isBestSound_2 : dk_R cX6_isBestSound [(60, .iconst (-1), 1), (61, .if_icmp .eq 26, 3), (64, .aload_n 0, 1), (65, .getfield 40, 3), (68, .invokevirtual 146, 3), (71, .ifCond .ne 14, 3), (74, .iload_n 3, 1), (75, .aload_n 0, 1), (76, .getfield 40, 3), (79, .getfield 304, 3), (82, .if_icmp .ge 5, 3), (85, .iconst 0, 1), (86, .ireturn, 1), (87, .iinc 2 1, 3), (90, .goto (-44), 3), (93, .iinc 1 1, 3)] := dk_use _ _ (by decide +kernel)
theorem dd_X6_isBestSound_3 : dk_R cX6_isBestSound [(96, .goto (-58), 3), (99, .iconst 1, 1), (100, .ireturn, 1)] := dk_use _ _ (by decide +kernel)
def fX6_isBestSound (xwk : Int32) (xy3 : Int32) (xy4 : Int32) (xy9 : Int32) (xt0 : Int32) (xt1 : Int32) (xt2 : Int32) (xt3 : Int32) (xt4 : Int32) (xt5 : Int32) (xt6 : Int32) (xt7 : Int32) (xt8 : Int32) (xt9 : Int32) : Option (Int32 × Int32 × Int32 × Int32 × Int32 × Int32 × Int32 × Int32) := ((fX2_isEmpty xy3 xy4).bind fun x_1 => (if x_1 = 0 then ((fX0_crossKnown xwk xy3 xy4).bind fun x_27 => (if x_27 = 0 then ((wl (S := Int32 × Int32 × Int32 × Int32 × Int32 × Int32 × Int32 × Int32) (B := (Int32 × Int32 × Int32 × Int32 × Int32 × Int32 × Int32 × Int32) ⊕ (Int32 × Int32 × Int32 × Int32 × Int32 × Int32 × Int32 × Int32)) (fun s_32 => (if 31 < s_32.1 then some (.inr (.inl (s_32.1, s_32.2.1, s_32.2.2.1, s_32.2.2.2.1, s_32.2.2.2.2.1, s_32.2.2.2.2.2.1, s_32.2.2.2.2.2.2.1, s_32.2.2.2.2.2.2.2))) else ((wl (S := Int32 × Int32 × Int32 × Int32 × Int32 × Int32 × Int32 × Int32) (B := (Int32 × Int32 × Int32 × Int32 × Int32 × Int32 × Int32 × Int32) ⊕ (Int32 × Int32 × Int32 × Int32 × Int32 × Int32 × Int32 × Int32)) (fun s_35 => (if 31 < s_35.1 then some (.inr (.inl (s_35.1, s_35.2.1, s_35.2.2.1, s_35.2.2.2.1, s_35.2.2.2.2.1, s_35.2.2.2.2.2.1, s_35.2.2.2.2.2.2.1, s_35.2.2.2.2.2.2.2))) else ((fX6_beatsOn xwk xt0 xt1 xt2 s_35.2.1 s_35.2.2.1 s_35.2.2.2.1 s_35.2.2.2.2.1 s_35.2.2.2.2.2.1 s_35.2.2.2.2.2.2.1 s_35.2.2.2.2.2.2.2 s_32.1 s_35.1).bind fun x_38 => (if x_38.1 = (-1) then some (.inl (s_35.1 + 1, x_38.2.1, x_38.2.2.1, x_38.2.2.2.1, x_38.2.2.2.2.1, x_38.2.2.2.2.2.1, x_38.2.2.2.2.2.2.1, x_38.2.2.2.2.2.2.2)) else ((fX2_isEmpty xy3 xy4).bind fun x_43 => (if x_43 = 0 then (if xy9 ≤ x_38.1 then some (.inl (s_35.1 + 1, x_38.2.1, x_38.2.2.1, x_38.2.2.2.1, x_38.2.2.2.2.1, x_38.2.2.2.2.2.1, x_38.2.2.2.2.2.2.1, x_38.2.2.2.2.2.2.2)) else some (.inr (.inr (0, x_38.2.1, x_38.2.2.1, x_38.2.2.2.1, x_38.2.2.2.2.1, x_38.2.2.2.2.2.1, x_38.2.2.2.2.2.2.1, x_38.2.2.2.2.2.2.2)))) else some (.inr (.inr (0, x_38.2.1, x_38.2.2.1, x_38.2.2.2.1, x_38.2.2.2.2.1, x_38.2.2.2.2.2.1, x_38.2.2.2.2.2.2.1, x_38.2.2.2.2.2.2.2))))))))) yFuel (1, s_32.2.1, s_32.2.2.1, s_32.2.2.2.1, s_32.2.2.2.2.1, s_32.2.2.2.2.2.1, s_32.2.2.2.2.2.2.1, s_32.2.2.2.2.2.2.2)).bind fun b_35 => ybr b_35 (fun z_35 => some (.inl (s_32.1 + 1, z_35.2.1, z_35.2.2.1, z_35.2.2.2.1, z_35.2.2.2.2.1, z_35.2.2.2.2.2.1, z_35.2.2.2.2.2.2.1, z_35.2.2.2.2.2.2.2))) (fun r => some (.inr (.inr r)))))) yFuel (1, xt3, xt4, xt5, xt6, xt7, xt8, xt9)).bind fun b_32 => ybr b_32 (fun z_32 => some (1, z_32.2.1, z_32.2.2.1, z_32.2.2.2.1, z_32.2.2.2.2.1, z_32.2.2.2.2.2.1, z_32.2.2.2.2.2.2.1, z_32.2.2.2.2.2.2.2)) (fun r => some r)) else some (0, xt3, xt4, xt5, xt6, xt7, xt8, xt9))) else ((wl (S := Int32 × Int32 × Int32 × Int32 × Int32 × Int32 × Int32 × Int32) (B := (Int32 × Int32 × Int32 × Int32 × Int32 × Int32 × Int32 × Int32) ⊕ (Int32 × Int32 × Int32 × Int32 × Int32 × Int32 × Int32 × Int32)) (fun s_6 => (if 31 < s_6.1 then some (.inr (.inl (s_6.1, s_6.2.1, s_6.2.2.1, s_6.2.2.2.1, s_6.2.2.2.2.1, s_6.2.2.2.2.2.1, s_6.2.2.2.2.2.2.1, s_6.2.2.2.2.2.2.2))) else ((wl (S := Int32 × Int32 × Int32 × Int32 × Int32 × Int32 × Int32 × Int32) (B := (Int32 × Int32 × Int32 × Int32 × Int32 × Int32 × Int32 × Int32) ⊕ (Int32 × Int32 × Int32 × Int32 × Int32 × Int32 × Int32 × Int32)) (fun s_9 => (if 31 < s_9.1 then some (.inr (.inl (s_9.1, s_9.2.1, s_9.2.2.1, s_9.2.2.2.1, s_9.2.2.2.2.1, s_9.2.2.2.2.2.1, s_9.2.2.2.2.2.2.1, s_9.2.2.2.2.2.2.2))) else ((fX6_beatsOn xwk xt0 xt1 xt2 s_9.2.1 s_9.2.2.1 s_9.2.2.2.1 s_9.2.2.2.2.1 s_9.2.2.2.2.2.1 s_9.2.2.2.2.2.2.1 s_9.2.2.2.2.2.2.2 s_6.1 s_9.1).bind fun x_12 => (if x_12.1 = (-1) then some (.inl (s_9.1 + 1, x_12.2.1, x_12.2.2.1, x_12.2.2.2.1, x_12.2.2.2.2.1, x_12.2.2.2.2.2.1, x_12.2.2.2.2.2.2.1, x_12.2.2.2.2.2.2.2)) else ((fX2_isEmpty xy3 xy4).bind fun x_17 => (if x_17 = 0 then (if xy9 ≤ x_12.1 then some (.inl (s_9.1 + 1, x_12.2.1, x_12.2.2.1, x_12.2.2.2.1, x_12.2.2.2.2.1, x_12.2.2.2.2.2.1, x_12.2.2.2.2.2.2.1, x_12.2.2.2.2.2.2.2)) else some (.inr (.inr (0, x_12.2.1, x_12.2.2.1, x_12.2.2.2.1, x_12.2.2.2.2.1, x_12.2.2.2.2.2.1, x_12.2.2.2.2.2.2.1, x_12.2.2.2.2.2.2.2)))) else some (.inr (.inr (0, x_12.2.1, x_12.2.2.1, x_12.2.2.2.1, x_12.2.2.2.2.1, x_12.2.2.2.2.2.1, x_12.2.2.2.2.2.2.1, x_12.2.2.2.2.2.2.2))))))))) yFuel (1, s_6.2.1, s_6.2.2.1, s_6.2.2.2.1, s_6.2.2.2.2.1, s_6.2.2.2.2.2.1, s_6.2.2.2.2.2.2.1, s_6.2.2.2.2.2.2.2)).bind fun b_9 => ybr b_9 (fun z_9 => some (.inl (s_6.1 + 1, z_9.2.1, z_9.2.2.1, z_9.2.2.2.1, z_9.2.2.2.2.1, z_9.2.2.2.2.2.1, z_9.2.2.2.2.2.2.1, z_9.2.2.2.2.2.2.2))) (fun r => some (.inr (.inr r)))))) yFuel (1, xt3, xt4, xt5, xt6, xt7, xt8, xt9)).bind fun b_6 => ybr b_6 (fun z_6 => some (1, z_6.2.1, z_6.2.2.1, z_6.2.2.2.1, z_6.2.2.2.2.1, z_6.2.2.2.2.2.1, z_6.2.2.2.2.2.2.1, z_6.2.2.2.2.2.2.2)) (fun r => some r))))
abbrev hX6_isBestSound : Cond := .code yX6_isBestSound cX6_isBestSound 4 (some .boolean)
theorem mX6_isBestSound : yM yX6_isBestSound hX6_isBestSound 0 := ⟨u_402, u_57, by decide +kernel, by decide +kernel, by decide +kernel⟩
set_option maxHeartbeats 4000000 in
set_option maxRecDepth 100000 in
theorem kX6_isBestSound (l : Launch) (D : va_G) (cy : Nat → ClassId) (x : Nat) (xj : Nat) (xw : Nat) (xz : Nat) (xo : Nat) (xy : Nat) (xt : Nat) (xwu : Nat) (xwm : Nat) (xwb : Int32) (xwk : Int32) (xy0 : Int32) (xy1 : Int32) (xy2 : Int32) (xy3 : Int32) (xy4 : Int32) (xy5 : Int32) (xy6 : Int32) (xy7 : Int32) (xy8 : Int32) (xy9 : Int32) (xt0 : Int32) (xt1 : Int32) (xt2 : Int32) (xt3 : Int32) (xt4 : Int32) (xt5 : Int32) (xt6 : Int32) (xt7 : Int32) (xt8 : Int32) (xt9 : Int32) {res : Int32 × Int32 × Int32 × Int32 × Int32 × Int32 × Int32 × Int32} (hR : fX6_isBestSound xwk xy3 xy4 xy9 xt0 xt1 xt2 xt3 xt4 xt5 xt6 xt7 xt8 xt9 = some res) : YM l D cy yX6_isBestSound hX6_isBestSound 4 0 0 [.ref x] [[(x, .inr (8, [.ref xj, .ref xw, .ref xz, .ref xo, .ref xy, .ref xt]))], [(xw, .inr (2, [.ref xwu, .ref xwm, .int xwb, .int xwk]))], [(xy, .inr (4, [.int xy0, .int xy1, .int xy2, .int xy3, .int xy4, .int xy5, .int xy6, .int xy7, .int xy8, .int xy9]))], [(xt, .inr (4, [.int xt0, .int xt1, .int xt2, .int xt3, .int xt4, .int xt5, .int xt6, .int xt7, .int xt8, .int xt9]))]] (fun v u => v = some (.int res.1) ∧ u = [[(x, .inr (8, [.ref xj, .ref xw, .ref xz, .ref xo, .ref xy, .ref xt]))], [(xw, .inr (2, [.ref xwu, .ref xwm, .int xwb, .int xwk]))], [(xy, .inr (4, [.int xy0, .int xy1, .int xy2, .int xy3, .int xy4, .int xy5, .int xy6, .int xy7, .int xy8, .int xy9]))], [(xt, .inr (4, [.int xt0, .int xt1, .int xt2, .int res.2.1, .int res.2.2.1, .int res.2.2.2.1, .int res.2.2.2.2.1, .int res.2.2.2.2.2.1, .int res.2.2.2.2.2.2.1, .int res.2.2.2.2.2.2.2]))]]) := by
  unfold fX6_isBestSound at hR
  refine YM.ofZ (cc := cX6_isBestSound) (maxL := 4) (ret := (some .boolean)) (by decide +kernel) rfl (Nat.le_of_ble_eq_true rfl) [(0, .ref x)] rfl .boolean rfl (fun p e s m args below meth c A H0 Q C hnm ret => ?_)
  refine xr_aload_n (n := 1) (j := 0) C dd_X6_isBestSound_0.1 rfl rfl ?_
  refine xr_get (n := 4) C 0 rfl rfl 4 (by decide) in_X6 u_293 rfl (v := .ref xy) rfl dd_X6_isBestSound_0.2.1 rfl ?_
  obtain ⟨x_1, hx_1, hR⟩ := yf_b hR
  refine xr_callVp (n := 7) (As := []) (rest := []) C (kX2_isEmpty l D cy (y := xy) (y0 := xy0) (y1 := xy1) (y2 := xy2) (y3 := xy3) (y4 := xy4) (y5 := xy5) (y6 := xy6) (y7 := xy7) (y8 := xy8) (y9 := xy9) hx_1) mX2_isEmpty u_378 u_379 u_380 2 rfl rfl 4 [2] [0, 1, 3] rfl (by decide +kernel) rfl rfl rfl rfl (Nat.le_of_ble_eq_true rfl) (Nat.le_of_ble_eq_true rfl) (Nat.le_of_ble_eq_true rfl) (Nat.le_of_ble_eq_true rfl) (Nat.le_of_ble_eq_true rfl) dd_X6_isBestSound_0.2.2.1 rfl (fun _ _ hp => hp.2) (fun v_2 hp_4 => ?_)
  obtain ⟨rfl, -⟩ := hp_4
  refine xr_st (st' := [.int x_1]) rfl ?_
  refine xr_if_ne (tgt := 36) (n := 10) C dd_X6_isBestSound_0.2.2.2.1 rfl rfl (fun c_5 => ?_) (fun c_5 => ?_)
  · replace hR := yf_f c_5 hR
    refine xr_iconst (n := 37) (v := 1) C dd_X6_isBestSound_1.1 rfl rfl ?_
    refine xr_istore_n (n := 38) C [(1, .int 1), (0, .ref x)] dd_X6_isBestSound_1.2.1 (by decide) rfl rfl ?_
    refine xr_lv (lv' := [(0, .ref x), (1, .int 1)]) [1, 0] rfl ?_
    obtain ⟨b_6, hb_6, hR⟩ := yf_b hR
    have K_6 : ∀ z_6, b_6 = .inl z_6 → X p l e (yR 4 0 0) s m args below meth c D A H0 4 Q [[(x, .inr (8, [.ref xj, .ref xw, .ref xz, .ref xo, .ref xy, .ref xt]))], [(xw, .inr (2, [.ref xwu, .ref xwm, .int xwb, .int xwk]))], [(xy, .inr (4, [.int xy0, .int xy1, .int xy2, .int xy3, .int xy4, .int xy5, .int xy6, .int xy7, .int xy8, .int xy9]))], [(xt, .inr (4, [.int xt0, .int xt1, .int xt2, .int z_6.2.1, .int z_6.2.2.1, .int z_6.2.2.2.1, .int z_6.2.2.2.2.1, .int z_6.2.2.2.2.2.1, .int z_6.2.2.2.2.2.2.1, .int z_6.2.2.2.2.2.2.2]))]] 0 0 [] 99 [] := by
      intro z_6 e_6; subst e_6; replace hR := ybr_l hR
      refine xr_iconst (n := 100) (v := 1) C dd_X6_isBestSound_3.2.1 rfl rfl ?_
      obtain rfl := Option.some.inj hR
      exact ret 1 (by decide) ⟨rfl, rfl⟩ (Nat.le_of_ble_eq_true rfl) (Nat.le_of_ble_eq_true rfl) dd_X6_isBestSound_3.2.2.1
    refine y_loop (P := fun (s_6 : Int32 × Int32 × Int32 × Int32 × Int32 × Int32 × Int32 × Int32) => X p l e (yR 4 0 0) s m args below meth c D A H0 4 Q [[(x, .inr (8, [.ref xj, .ref xw, .ref xz, .ref xo, .ref xy, .ref xt]))], [(xw, .inr (2, [.ref xwu, .ref xwm, .int xwb, .int xwk]))], [(xy, .inr (4, [.int xy0, .int xy1, .int xy2, .int xy3, .int xy4, .int xy5, .int xy6, .int xy7, .int xy8, .int xy9]))], [(xt, .inr (4, [.int xt0, .int xt1, .int xt2, .int s_6.2.1, .int s_6.2.2.1, .int s_6.2.2.2.1, .int s_6.2.2.2.2.1, .int s_6.2.2.2.2.2.1, .int s_6.2.2.2.2.2.2.1, .int s_6.2.2.2.2.2.2.2]))]] 0 0 [(0, .ref x), (1, .int s_6.1)] 38 []) ?_ _ (1, xt3, xt4, xt5, xt6, xt7, xt8, xt9) hb_6
    intro s_6 o_6 ho_6 hk_6 hx_6
    refine xr_iload_n (n := 39) (j := 1) C dd_X6_isBestSound_1.2.2.1 rfl rfl ?_
    refine xr_bipush (n := 41) (v := 31) C dd_X6_isBestSound_1.2.2.2.1 rfl rfl ?_
    refine xr_icmp_gt (tgt := 99) (n := 44) C dd_X6_isBestSound_1.2.2.2.2.1 rfl rfl (fun c_7 => ?_) (fun c_7 => ?_)
    · replace ho_6 := yf_t c_7 ho_6
      refine xr_lv (lv' := []) [] rfl ?_
      have e_8 := hx_6 _ (Option.some.inj ho_6).symm
      exact K_6 (s_6.1, s_6.2.1, s_6.2.2.1, s_6.2.2.2.1, s_6.2.2.2.2.1, s_6.2.2.2.2.2.1, s_6.2.2.2.2.2.2.1, s_6.2.2.2.2.2.2.2) e_8.symm
    · replace ho_6 := yf_f c_7 ho_6
      refine xr_iconst (n := 45) (v := 1) C dd_X6_isBestSound_1.2.2.2.2.2.1 rfl rfl ?_
      refine xr_istore_n (n := 46) C [(2, .int 1), (0, .ref x), (1, .int s_6.1)] dd_X6_isBestSound_1.2.2.2.2.2.2.1 (by decide) rfl rfl ?_
      refine xr_lv (lv' := [(0, .ref x), (1, .int s_6.1), (2, .int 1)]) [1, 2, 0] rfl ?_
      obtain ⟨b_9, hb_9, ho_6⟩ := yf_b ho_6
      have K_9 : ∀ z_9, b_9 = .inl z_9 → X p l e (yR 4 0 0) s m args below meth c D A H0 4 Q [[(x, .inr (8, [.ref xj, .ref xw, .ref xz, .ref xo, .ref xy, .ref xt]))], [(xw, .inr (2, [.ref xwu, .ref xwm, .int xwb, .int xwk]))], [(xy, .inr (4, [.int xy0, .int xy1, .int xy2, .int xy3, .int xy4, .int xy5, .int xy6, .int xy7, .int xy8, .int xy9]))], [(xt, .inr (4, [.int xt0, .int xt1, .int xt2, .int z_9.2.1, .int z_9.2.2.1, .int z_9.2.2.2.1, .int z_9.2.2.2.2.1, .int z_9.2.2.2.2.2.1, .int z_9.2.2.2.2.2.2.1, .int z_9.2.2.2.2.2.2.2]))]] 0 0 [(0, .ref x), (1, .int s_6.1)] 93 [] := by
        intro z_9 e_9; subst e_9; replace ho_6 := ybr_l ho_6
        refine xr_iinc (j := 1) (v := s_6.1 + 1) (n := 96) C [(1, .int (s_6.1 + 1)), (0, .ref x)] dd_X6_isBestSound_2.2.2.2.2.2.2.2.2.2.2.2.2.2.2.2.1 rfl rfl (by decide) rfl rfl ?_
        refine xr_goto (tgt := 38) C dd_X6_isBestSound_3.1 rfl ?_
        refine xr_lv (lv' := [(0, .ref x), (1, .int (s_6.1 + 1))]) [1, 0] rfl ?_
        exact hk_6 (s_6.1 + 1, z_9.2.1, z_9.2.2.1, z_9.2.2.2.1, z_9.2.2.2.2.1, z_9.2.2.2.2.2.1, z_9.2.2.2.2.2.2.1, z_9.2.2.2.2.2.2.2) (Option.some.inj ho_6).symm
      refine y_loop (P := fun (s_9 : Int32 × Int32 × Int32 × Int32 × Int32 × Int32 × Int32 × Int32) => X p l e (yR 4 0 0) s m args below meth c D A H0 4 Q [[(x, .inr (8, [.ref xj, .ref xw, .ref xz, .ref xo, .ref xy, .ref xt]))], [(xw, .inr (2, [.ref xwu, .ref xwm, .int xwb, .int xwk]))], [(xy, .inr (4, [.int xy0, .int xy1, .int xy2, .int xy3, .int xy4, .int xy5, .int xy6, .int xy7, .int xy8, .int xy9]))], [(xt, .inr (4, [.int xt0, .int xt1, .int xt2, .int s_9.2.1, .int s_9.2.2.1, .int s_9.2.2.2.1, .int s_9.2.2.2.2.1, .int s_9.2.2.2.2.2.1, .int s_9.2.2.2.2.2.2.1, .int s_9.2.2.2.2.2.2.2]))]] 0 0 [(0, .ref x), (1, .int s_6.1), (2, .int s_9.1)] 46 []) ?_ _ (1, s_6.2.1, s_6.2.2.1, s_6.2.2.2.1, s_6.2.2.2.2.1, s_6.2.2.2.2.2.1, s_6.2.2.2.2.2.2.1, s_6.2.2.2.2.2.2.2) hb_9
      intro s_9 o_9 ho_9 hk_9 hx_9
      refine xr_iload_n (n := 47) (j := 2) C dd_X6_isBestSound_1.2.2.2.2.2.2.2.1 rfl rfl ?_
      refine xr_bipush (n := 49) (v := 31) C dd_X6_isBestSound_1.2.2.2.2.2.2.2.2.1 rfl rfl ?_
      refine xr_icmp_gt (tgt := 93) (n := 52) C dd_X6_isBestSound_1.2.2.2.2.2.2.2.2.2.1 rfl rfl (fun c_10 => ?_) (fun c_10 => ?_)
      · replace ho_9 := yf_t c_10 ho_9
        refine xr_lv (lv' := [(0, .ref x), (1, .int s_6.1)]) [0, 1] rfl ?_
        have e_11 := hx_9 _ (Option.some.inj ho_9).symm
        exact K_9 (s_9.1, s_9.2.1, s_9.2.2.1, s_9.2.2.2.1, s_9.2.2.2.2.1, s_9.2.2.2.2.2.1, s_9.2.2.2.2.2.2.1, s_9.2.2.2.2.2.2.2) e_11.symm
      · replace ho_9 := yf_f c_10 ho_9
        refine xr_aload_n (n := 53) (j := 0) C dd_X6_isBestSound_1.2.2.2.2.2.2.2.2.2.2.1 rfl rfl ?_
        refine xr_iload_n (n := 54) (j := 1) C dd_X6_isBestSound_1.2.2.2.2.2.2.2.2.2.2.2.1 rfl rfl ?_
        refine xr_iload_n (n := 55) (j := 2) C dd_X6_isBestSound_1.2.2.2.2.2.2.2.2.2.2.2.2.1 rfl rfl ?_
        obtain ⟨x_12, hx_12, ho_9⟩ := yf_b ho_9
        refine xr_callV (n := 58) (As := [.int s_6.1, .int s_9.1]) (rest := []) C (kX6_beatsOn l D cy (x := x) (xj := xj) (xw := xw) (xz := xz) (xo := xo) (xy := xy) (xt := xt) (xwu := xwu) (xwm := xwm) (xwb := xwb) (xwk := xwk) (xt0 := xt0) (xt1 := xt1) (xt2 := xt2) (xt3 := s_9.2.1) (xt4 := s_9.2.2.1) (xt5 := s_9.2.2.2.1) (xt6 := s_9.2.2.2.2.1) (xt7 := s_9.2.2.2.2.2.1) (xt8 := s_9.2.2.2.2.2.2.1) (xt9 := s_9.2.2.2.2.2.2.2) (i1 := s_6.1) (i2 := s_9.1) hx_12) mX6_beatsOn u_408 u_410 u_8 0 rfl rfl 4 [0, 1, 3] [2] rfl (by decide +kernel) rfl rfl rfl rfl (Nat.le_of_ble_eq_true rfl) (Nat.le_of_ble_eq_true rfl) (Nat.le_of_ble_eq_true rfl) (Nat.le_of_ble_eq_true rfl) (Nat.le_of_ble_eq_true rfl) dd_X6_isBestSound_1.2.2.2.2.2.2.2.2.2.2.2.2.2.1 rfl (fun v_13 u_14 hp_15 => ?_)
        obtain ⟨rfl, rfl⟩ := hp_15
        refine xr_perm C 4 [0, 1, 3, 2] [] [[(x, .inr (8, [.ref xj, .ref xw, .ref xz, .ref xo, .ref xy, .ref xt]))], [(xw, .inr (2, [.ref xwu, .ref xwm, .int xwb, .int xwk]))], [(xy, .inr (4, [.int xy0, .int xy1, .int xy2, .int xy3, .int xy4, .int xy5, .int xy6, .int xy7, .int xy8, .int xy9]))], [(xt, .inr (4, [.int xt0, .int xt1, .int xt2, .int x_12.2.1, .int x_12.2.2.1, .int x_12.2.2.2.1, .int x_12.2.2.2.2.1, .int x_12.2.2.2.2.2.1, .int x_12.2.2.2.2.2.2.1, .int x_12.2.2.2.2.2.2.2]))]] rfl (by decide +kernel) rfl ?_
        refine xr_st (st' := [.int x_12.1]) rfl ?_
        refine xr_istore_n (n := 59) C [(3, .int x_12.1), (0, .ref x), (1, .int s_6.1), (2, .int s_9.1)] dd_X6_isBestSound_1.2.2.2.2.2.2.2.2.2.2.2.2.2.2.1 (by decide) rfl rfl ?_
        refine xr_iload_n (n := 60) (j := 0) C dd_X6_isBestSound_1.2.2.2.2.2.2.2.2.2.2.2.2.2.2.2.1 rfl rfl ?_
        refine xr_iconst (n := 61) (v := -1) C dd_X6_isBestSound_2.1 rfl rfl ?_
        refine xr_icmp_eq (tgt := 87) (n := 64) C dd_X6_isBestSound_2.2.1 rfl rfl (fun c_16 => ?_) (fun c_16 => ?_)
        · replace ho_9 := yf_t c_16 ho_9
          refine xr_iinc (j := 3) (v := s_9.1 + 1) (n := 90) C [(2, .int (s_9.1 + 1)), (3, .int x_12.1), (0, .ref x), (1, .int s_6.1)] dd_X6_isBestSound_2.2.2.2.2.2.2.2.2.2.2.2.2.2.1 rfl rfl (by decide) rfl rfl ?_
          refine xr_goto (tgt := 46) C dd_X6_isBestSound_2.2.2.2.2.2.2.2.2.2.2.2.2.2.2.1 rfl ?_
          refine xr_lv (lv' := [(0, .ref x), (1, .int s_6.1), (2, .int (s_9.1 + 1))]) [2, 3, 0] rfl ?_
          exact hk_9 (s_9.1 + 1, x_12.2.1, x_12.2.2.1, x_12.2.2.2.1, x_12.2.2.2.2.1, x_12.2.2.2.2.2.1, x_12.2.2.2.2.2.2.1, x_12.2.2.2.2.2.2.2) (Option.some.inj ho_9).symm
        · replace ho_9 := yf_f c_16 ho_9
          refine xr_aload_n (n := 65) (j := 1) C dd_X6_isBestSound_2.2.2.1 rfl rfl ?_
          refine xr_get (n := 68) C 0 rfl rfl 4 (by decide) in_X6 u_293 rfl (v := .ref xy) rfl dd_X6_isBestSound_2.2.2.2.1 rfl ?_
          obtain ⟨x_17, hx_17, ho_9⟩ := yf_b ho_9
          refine xr_callVp (n := 71) (As := []) (rest := []) C (kX2_isEmpty l D cy (y := xy) (y0 := xy0) (y1 := xy1) (y2 := xy2) (y3 := xy3) (y4 := xy4) (y5 := xy5) (y6 := xy6) (y7 := xy7) (y8 := xy8) (y9 := xy9) hx_17) mX2_isEmpty u_378 u_379 u_380 2 rfl rfl 4 [2] [0, 1, 3] rfl (by decide +kernel) rfl rfl rfl rfl (Nat.le_of_ble_eq_true rfl) (Nat.le_of_ble_eq_true rfl) (Nat.le_of_ble_eq_true rfl) (Nat.le_of_ble_eq_true rfl) (Nat.le_of_ble_eq_true rfl) dd_X6_isBestSound_2.2.2.2.2.1 rfl (fun _ _ hp => hp.2) (fun v_18 hp_20 => ?_)
          obtain ⟨rfl, -⟩ := hp_20
          refine xr_st (st' := [.int x_17]) rfl ?_
          refine xr_if_ne (tgt := 85) (n := 74) C dd_X6_isBestSound_2.2.2.2.2.2.1 rfl rfl (fun c_21 => ?_) (fun c_21 => ?_)
          · replace ho_9 := yf_f c_21 ho_9
            refine xr_iconst (n := 86) (v := 0) C dd_X6_isBestSound_2.2.2.2.2.2.2.2.2.2.2.2.1 rfl rfl ?_
            have e_22 := hx_9 _ (Option.some.inj ho_9).symm
            subst e_22
            replace ho_6 := ybr_r ho_6
            have e_23 := hx_6 _ (Option.some.inj ho_6).symm
            subst e_23
            replace hR := ybr_r hR
            obtain rfl := Option.some.inj hR
            exact ret 0 (by decide) ⟨rfl, rfl⟩ (Nat.le_of_ble_eq_true rfl) (Nat.le_of_ble_eq_true rfl) dd_X6_isBestSound_2.2.2.2.2.2.2.2.2.2.2.2.2.1
          · replace ho_9 := yf_t c_21 ho_9
            refine xr_iload_n (n := 75) (j := 0) C dd_X6_isBestSound_2.2.2.2.2.2.2.1 rfl rfl ?_
            refine xr_aload_n (n := 76) (j := 1) C dd_X6_isBestSound_2.2.2.2.2.2.2.2.1 rfl rfl ?_
            refine xr_get (n := 79) C 0 rfl rfl 4 (by decide) in_X6 u_293 rfl (v := .ref xy) rfl dd_X6_isBestSound_2.2.2.2.2.2.2.2.2.1 rfl ?_
            refine xr_getN (n := 82) C 2 rfl rfl 9 (by decide) in_X2 RX6 (List.mem_of_getElem? (i := 38) rfl) rfl (v := .int xy9) rfl dd_X6_isBestSound_2.2.2.2.2.2.2.2.2.2.1 rfl ?_
            refine xr_icmp_ge (tgt := 87) (n := 85) C dd_X6_isBestSound_2.2.2.2.2.2.2.2.2.2.2.1 rfl rfl (fun c_24 => ?_) (fun c_24 => ?_)
            · replace ho_9 := yf_t c_24 ho_9
              refine xr_iinc (j := 3) (v := s_9.1 + 1) (n := 90) C [(2, .int (s_9.1 + 1)), (3, .int x_12.1), (0, .ref x), (1, .int s_6.1)] dd_X6_isBestSound_2.2.2.2.2.2.2.2.2.2.2.2.2.2.1 rfl rfl (by decide) rfl rfl ?_
              refine xr_goto (tgt := 46) C dd_X6_isBestSound_2.2.2.2.2.2.2.2.2.2.2.2.2.2.2.1 rfl ?_
              refine xr_lv (lv' := [(0, .ref x), (1, .int s_6.1), (2, .int (s_9.1 + 1))]) [2, 3, 0] rfl ?_
              exact hk_9 (s_9.1 + 1, x_12.2.1, x_12.2.2.1, x_12.2.2.2.1, x_12.2.2.2.2.1, x_12.2.2.2.2.2.1, x_12.2.2.2.2.2.2.1, x_12.2.2.2.2.2.2.2) (Option.some.inj ho_9).symm
            · replace ho_9 := yf_f c_24 ho_9
              refine xr_iconst (n := 86) (v := 0) C dd_X6_isBestSound_2.2.2.2.2.2.2.2.2.2.2.2.1 rfl rfl ?_
              have e_25 := hx_9 _ (Option.some.inj ho_9).symm
              subst e_25
              replace ho_6 := ybr_r ho_6
              have e_26 := hx_6 _ (Option.some.inj ho_6).symm
              subst e_26
              replace hR := ybr_r hR
              obtain rfl := Option.some.inj hR
              exact ret 0 (by decide) ⟨rfl, rfl⟩ (Nat.le_of_ble_eq_true rfl) (Nat.le_of_ble_eq_true rfl) dd_X6_isBestSound_2.2.2.2.2.2.2.2.2.2.2.2.2.1
  · replace hR := yf_t c_5 hR
    refine xr_aload_n (n := 11) (j := 0) C dd_X6_isBestSound_0.2.2.2.2.1 rfl rfl ?_
    refine xr_get (n := 14) C 0 rfl rfl 1 (by decide) in_X6 u_290 rfl (v := .ref xw) rfl dd_X6_isBestSound_0.2.2.2.2.2.1 rfl ?_
    refine xr_aload_n (n := 15) (j := 0) C dd_X6_isBestSound_0.2.2.2.2.2.2.1 rfl rfl ?_
    refine xr_get (n := 18) C 0 rfl rfl 4 (by decide) in_X6 u_293 rfl (v := .ref xy) rfl dd_X6_isBestSound_0.2.2.2.2.2.2.2.1 rfl ?_
    refine xr_getN (n := 21) C 2 rfl rfl 3 (by decide) in_X2 RX6 (List.mem_of_getElem? (i := 32) rfl) rfl (v := .int xy3) rfl dd_X6_isBestSound_0.2.2.2.2.2.2.2.2.1 rfl ?_
    refine xr_aload_n (n := 22) (j := 0) C dd_X6_isBestSound_0.2.2.2.2.2.2.2.2.2.1 rfl rfl ?_
    refine xr_get (n := 25) C 0 rfl rfl 4 (by decide) in_X6 u_293 rfl (v := .ref xy) rfl dd_X6_isBestSound_0.2.2.2.2.2.2.2.2.2.2.1 rfl ?_
    refine xr_getN (n := 28) C 2 rfl rfl 4 (by decide) in_X2 RX6 (List.mem_of_getElem? (i := 34) rfl) rfl (v := .int xy4) rfl dd_X6_isBestSound_0.2.2.2.2.2.2.2.2.2.2.2.1 rfl ?_
    obtain ⟨x_27, hx_27, hR⟩ := yf_b hR
    refine xr_callVp (n := 31) (As := [.int xy3, .int xy4]) (rest := []) C (kX0_crossKnown l D cy (w := xw) (wu := xwu) (wm := xwm) (wb := xwb) (wk := xwk) (i1 := xy3) (i2 := xy4) hx_27) mX0_crossKnown u_403 u_404 u_405 1 rfl rfl 4 [1] [0, 2, 3] rfl (by decide +kernel) rfl rfl rfl rfl (Nat.le_of_ble_eq_true rfl) (Nat.le_of_ble_eq_true rfl) (Nat.le_of_ble_eq_true rfl) (Nat.le_of_ble_eq_true rfl) (Nat.le_of_ble_eq_true rfl) dd_X6_isBestSound_0.2.2.2.2.2.2.2.2.2.2.2.2.1 rfl (fun _ _ hp => hp.2) (fun v_28 hp_30 => ?_)
    obtain ⟨rfl, -⟩ := hp_30
    refine xr_st (st' := [.int x_27]) rfl ?_
    refine xr_if_eq (tgt := 36) (n := 34) C dd_X6_isBestSound_0.2.2.2.2.2.2.2.2.2.2.2.2.2.1 rfl rfl (fun c_31 => ?_) (fun c_31 => ?_)
    · replace hR := yf_t c_31 hR
      refine xr_iconst (n := 37) (v := 1) C dd_X6_isBestSound_1.1 rfl rfl ?_
      refine xr_istore_n (n := 38) C [(1, .int 1), (0, .ref x)] dd_X6_isBestSound_1.2.1 (by decide) rfl rfl ?_
      refine xr_lv (lv' := [(0, .ref x), (1, .int 1)]) [1, 0] rfl ?_
      obtain ⟨b_32, hb_32, hR⟩ := yf_b hR
      have K_32 : ∀ z_32, b_32 = .inl z_32 → X p l e (yR 4 0 0) s m args below meth c D A H0 4 Q [[(x, .inr (8, [.ref xj, .ref xw, .ref xz, .ref xo, .ref xy, .ref xt]))], [(xw, .inr (2, [.ref xwu, .ref xwm, .int xwb, .int xwk]))], [(xy, .inr (4, [.int xy0, .int xy1, .int xy2, .int xy3, .int xy4, .int xy5, .int xy6, .int xy7, .int xy8, .int xy9]))], [(xt, .inr (4, [.int xt0, .int xt1, .int xt2, .int z_32.2.1, .int z_32.2.2.1, .int z_32.2.2.2.1, .int z_32.2.2.2.2.1, .int z_32.2.2.2.2.2.1, .int z_32.2.2.2.2.2.2.1, .int z_32.2.2.2.2.2.2.2]))]] 0 0 [] 99 [] := by
        intro z_32 e_32; subst e_32; replace hR := ybr_l hR
        refine xr_iconst (n := 100) (v := 1) C dd_X6_isBestSound_3.2.1 rfl rfl ?_
        obtain rfl := Option.some.inj hR
        exact ret 1 (by decide) ⟨rfl, rfl⟩ (Nat.le_of_ble_eq_true rfl) (Nat.le_of_ble_eq_true rfl) dd_X6_isBestSound_3.2.2.1
      refine y_loop (P := fun (s_32 : Int32 × Int32 × Int32 × Int32 × Int32 × Int32 × Int32 × Int32) => X p l e (yR 4 0 0) s m args below meth c D A H0 4 Q [[(x, .inr (8, [.ref xj, .ref xw, .ref xz, .ref xo, .ref xy, .ref xt]))], [(xw, .inr (2, [.ref xwu, .ref xwm, .int xwb, .int xwk]))], [(xy, .inr (4, [.int xy0, .int xy1, .int xy2, .int xy3, .int xy4, .int xy5, .int xy6, .int xy7, .int xy8, .int xy9]))], [(xt, .inr (4, [.int xt0, .int xt1, .int xt2, .int s_32.2.1, .int s_32.2.2.1, .int s_32.2.2.2.1, .int s_32.2.2.2.2.1, .int s_32.2.2.2.2.2.1, .int s_32.2.2.2.2.2.2.1, .int s_32.2.2.2.2.2.2.2]))]] 0 0 [(0, .ref x), (1, .int s_32.1)] 38 []) ?_ _ (1, xt3, xt4, xt5, xt6, xt7, xt8, xt9) hb_32
      intro s_32 o_32 ho_32 hk_32 hx_32
      refine xr_iload_n (n := 39) (j := 1) C dd_X6_isBestSound_1.2.2.1 rfl rfl ?_
      refine xr_bipush (n := 41) (v := 31) C dd_X6_isBestSound_1.2.2.2.1 rfl rfl ?_
      refine xr_icmp_gt (tgt := 99) (n := 44) C dd_X6_isBestSound_1.2.2.2.2.1 rfl rfl (fun c_33 => ?_) (fun c_33 => ?_)
      · replace ho_32 := yf_t c_33 ho_32
        refine xr_lv (lv' := []) [] rfl ?_
        have e_34 := hx_32 _ (Option.some.inj ho_32).symm
        exact K_32 (s_32.1, s_32.2.1, s_32.2.2.1, s_32.2.2.2.1, s_32.2.2.2.2.1, s_32.2.2.2.2.2.1, s_32.2.2.2.2.2.2.1, s_32.2.2.2.2.2.2.2) e_34.symm
      · replace ho_32 := yf_f c_33 ho_32
        refine xr_iconst (n := 45) (v := 1) C dd_X6_isBestSound_1.2.2.2.2.2.1 rfl rfl ?_
        refine xr_istore_n (n := 46) C [(2, .int 1), (0, .ref x), (1, .int s_32.1)] dd_X6_isBestSound_1.2.2.2.2.2.2.1 (by decide) rfl rfl ?_
        refine xr_lv (lv' := [(0, .ref x), (1, .int s_32.1), (2, .int 1)]) [1, 2, 0] rfl ?_
        obtain ⟨b_35, hb_35, ho_32⟩ := yf_b ho_32
        have K_35 : ∀ z_35, b_35 = .inl z_35 → X p l e (yR 4 0 0) s m args below meth c D A H0 4 Q [[(x, .inr (8, [.ref xj, .ref xw, .ref xz, .ref xo, .ref xy, .ref xt]))], [(xw, .inr (2, [.ref xwu, .ref xwm, .int xwb, .int xwk]))], [(xy, .inr (4, [.int xy0, .int xy1, .int xy2, .int xy3, .int xy4, .int xy5, .int xy6, .int xy7, .int xy8, .int xy9]))], [(xt, .inr (4, [.int xt0, .int xt1, .int xt2, .int z_35.2.1, .int z_35.2.2.1, .int z_35.2.2.2.1, .int z_35.2.2.2.2.1, .int z_35.2.2.2.2.2.1, .int z_35.2.2.2.2.2.2.1, .int z_35.2.2.2.2.2.2.2]))]] 0 0 [(0, .ref x), (1, .int s_32.1)] 93 [] := by
          intro z_35 e_35; subst e_35; replace ho_32 := ybr_l ho_32
          refine xr_iinc (j := 1) (v := s_32.1 + 1) (n := 96) C [(1, .int (s_32.1 + 1)), (0, .ref x)] dd_X6_isBestSound_2.2.2.2.2.2.2.2.2.2.2.2.2.2.2.2.1 rfl rfl (by decide) rfl rfl ?_
          refine xr_goto (tgt := 38) C dd_X6_isBestSound_3.1 rfl ?_
          refine xr_lv (lv' := [(0, .ref x), (1, .int (s_32.1 + 1))]) [1, 0] rfl ?_
          exact hk_32 (s_32.1 + 1, z_35.2.1, z_35.2.2.1, z_35.2.2.2.1, z_35.2.2.2.2.1, z_35.2.2.2.2.2.1, z_35.2.2.2.2.2.2.1, z_35.2.2.2.2.2.2.2) (Option.some.inj ho_32).symm
        refine y_loop (P := fun (s_35 : Int32 × Int32 × Int32 × Int32 × Int32 × Int32 × Int32 × Int32) => X p l e (yR 4 0 0) s m args below meth c D A H0 4 Q [[(x, .inr (8, [.ref xj, .ref xw, .ref xz, .ref xo, .ref xy, .ref xt]))], [(xw, .inr (2, [.ref xwu, .ref xwm, .int xwb, .int xwk]))], [(xy, .inr (4, [.int xy0, .int xy1, .int xy2, .int xy3, .int xy4, .int xy5, .int xy6, .int xy7, .int xy8, .int xy9]))], [(xt, .inr (4, [.int xt0, .int xt1, .int xt2, .int s_35.2.1, .int s_35.2.2.1, .int s_35.2.2.2.1, .int s_35.2.2.2.2.1, .int s_35.2.2.2.2.2.1, .int s_35.2.2.2.2.2.2.1, .int s_35.2.2.2.2.2.2.2]))]] 0 0 [(0, .ref x), (1, .int s_32.1), (2, .int s_35.1)] 46 []) ?_ _ (1, s_32.2.1, s_32.2.2.1, s_32.2.2.2.1, s_32.2.2.2.2.1, s_32.2.2.2.2.2.1, s_32.2.2.2.2.2.2.1, s_32.2.2.2.2.2.2.2) hb_35
        intro s_35 o_35 ho_35 hk_35 hx_35
        refine xr_iload_n (n := 47) (j := 2) C dd_X6_isBestSound_1.2.2.2.2.2.2.2.1 rfl rfl ?_
        refine xr_bipush (n := 49) (v := 31) C dd_X6_isBestSound_1.2.2.2.2.2.2.2.2.1 rfl rfl ?_
        refine xr_icmp_gt (tgt := 93) (n := 52) C dd_X6_isBestSound_1.2.2.2.2.2.2.2.2.2.1 rfl rfl (fun c_36 => ?_) (fun c_36 => ?_)
        · replace ho_35 := yf_t c_36 ho_35
          refine xr_lv (lv' := [(0, .ref x), (1, .int s_32.1)]) [0, 1] rfl ?_
          have e_37 := hx_35 _ (Option.some.inj ho_35).symm
          exact K_35 (s_35.1, s_35.2.1, s_35.2.2.1, s_35.2.2.2.1, s_35.2.2.2.2.1, s_35.2.2.2.2.2.1, s_35.2.2.2.2.2.2.1, s_35.2.2.2.2.2.2.2) e_37.symm
        · replace ho_35 := yf_f c_36 ho_35
          refine xr_aload_n (n := 53) (j := 0) C dd_X6_isBestSound_1.2.2.2.2.2.2.2.2.2.2.1 rfl rfl ?_
          refine xr_iload_n (n := 54) (j := 1) C dd_X6_isBestSound_1.2.2.2.2.2.2.2.2.2.2.2.1 rfl rfl ?_
          refine xr_iload_n (n := 55) (j := 2) C dd_X6_isBestSound_1.2.2.2.2.2.2.2.2.2.2.2.2.1 rfl rfl ?_
          obtain ⟨x_38, hx_38, ho_35⟩ := yf_b ho_35
          refine xr_callV (n := 58) (As := [.int s_32.1, .int s_35.1]) (rest := []) C (kX6_beatsOn l D cy (x := x) (xj := xj) (xw := xw) (xz := xz) (xo := xo) (xy := xy) (xt := xt) (xwu := xwu) (xwm := xwm) (xwb := xwb) (xwk := xwk) (xt0 := xt0) (xt1 := xt1) (xt2 := xt2) (xt3 := s_35.2.1) (xt4 := s_35.2.2.1) (xt5 := s_35.2.2.2.1) (xt6 := s_35.2.2.2.2.1) (xt7 := s_35.2.2.2.2.2.1) (xt8 := s_35.2.2.2.2.2.2.1) (xt9 := s_35.2.2.2.2.2.2.2) (i1 := s_32.1) (i2 := s_35.1) hx_38) mX6_beatsOn u_408 u_410 u_8 0 rfl rfl 4 [0, 1, 3] [2] rfl (by decide +kernel) rfl rfl rfl rfl (Nat.le_of_ble_eq_true rfl) (Nat.le_of_ble_eq_true rfl) (Nat.le_of_ble_eq_true rfl) (Nat.le_of_ble_eq_true rfl) (Nat.le_of_ble_eq_true rfl) dd_X6_isBestSound_1.2.2.2.2.2.2.2.2.2.2.2.2.2.1 rfl (fun v_39 u_40 hp_41 => ?_)
          obtain ⟨rfl, rfl⟩ := hp_41
          refine xr_perm C 4 [0, 1, 3, 2] [] [[(x, .inr (8, [.ref xj, .ref xw, .ref xz, .ref xo, .ref xy, .ref xt]))], [(xw, .inr (2, [.ref xwu, .ref xwm, .int xwb, .int xwk]))], [(xy, .inr (4, [.int xy0, .int xy1, .int xy2, .int xy3, .int xy4, .int xy5, .int xy6, .int xy7, .int xy8, .int xy9]))], [(xt, .inr (4, [.int xt0, .int xt1, .int xt2, .int x_38.2.1, .int x_38.2.2.1, .int x_38.2.2.2.1, .int x_38.2.2.2.2.1, .int x_38.2.2.2.2.2.1, .int x_38.2.2.2.2.2.2.1, .int x_38.2.2.2.2.2.2.2]))]] rfl (by decide +kernel) rfl ?_
          refine xr_st (st' := [.int x_38.1]) rfl ?_
          refine xr_istore_n (n := 59) C [(3, .int x_38.1), (0, .ref x), (1, .int s_32.1), (2, .int s_35.1)] dd_X6_isBestSound_1.2.2.2.2.2.2.2.2.2.2.2.2.2.2.1 (by decide) rfl rfl ?_
          refine xr_iload_n (n := 60) (j := 0) C dd_X6_isBestSound_1.2.2.2.2.2.2.2.2.2.2.2.2.2.2.2.1 rfl rfl ?_
          refine xr_iconst (n := 61) (v := -1) C dd_X6_isBestSound_2.1 rfl rfl ?_
          refine xr_icmp_eq (tgt := 87) (n := 64) C dd_X6_isBestSound_2.2.1 rfl rfl (fun c_42 => ?_) (fun c_42 => ?_)
          · replace ho_35 := yf_t c_42 ho_35
            refine xr_iinc (j := 3) (v := s_35.1 + 1) (n := 90) C [(2, .int (s_35.1 + 1)), (3, .int x_38.1), (0, .ref x), (1, .int s_32.1)] dd_X6_isBestSound_2.2.2.2.2.2.2.2.2.2.2.2.2.2.1 rfl rfl (by decide) rfl rfl ?_
            refine xr_goto (tgt := 46) C dd_X6_isBestSound_2.2.2.2.2.2.2.2.2.2.2.2.2.2.2.1 rfl ?_
            refine xr_lv (lv' := [(0, .ref x), (1, .int s_32.1), (2, .int (s_35.1 + 1))]) [2, 3, 0] rfl ?_
            exact hk_35 (s_35.1 + 1, x_38.2.1, x_38.2.2.1, x_38.2.2.2.1, x_38.2.2.2.2.1, x_38.2.2.2.2.2.1, x_38.2.2.2.2.2.2.1, x_38.2.2.2.2.2.2.2) (Option.some.inj ho_35).symm
          · replace ho_35 := yf_f c_42 ho_35
            refine xr_aload_n (n := 65) (j := 1) C dd_X6_isBestSound_2.2.2.1 rfl rfl ?_
            refine xr_get (n := 68) C 0 rfl rfl 4 (by decide) in_X6 u_293 rfl (v := .ref xy) rfl dd_X6_isBestSound_2.2.2.2.1 rfl ?_
            obtain ⟨x_43, hx_43, ho_35⟩ := yf_b ho_35
            refine xr_callVp (n := 71) (As := []) (rest := []) C (kX2_isEmpty l D cy (y := xy) (y0 := xy0) (y1 := xy1) (y2 := xy2) (y3 := xy3) (y4 := xy4) (y5 := xy5) (y6 := xy6) (y7 := xy7) (y8 := xy8) (y9 := xy9) hx_43) mX2_isEmpty u_378 u_379 u_380 2 rfl rfl 4 [2] [0, 1, 3] rfl (by decide +kernel) rfl rfl rfl rfl (Nat.le_of_ble_eq_true rfl) (Nat.le_of_ble_eq_true rfl) (Nat.le_of_ble_eq_true rfl) (Nat.le_of_ble_eq_true rfl) (Nat.le_of_ble_eq_true rfl) dd_X6_isBestSound_2.2.2.2.2.1 rfl (fun _ _ hp => hp.2) (fun v_44 hp_46 => ?_)
            obtain ⟨rfl, -⟩ := hp_46
            refine xr_st (st' := [.int x_43]) rfl ?_
            refine xr_if_ne (tgt := 85) (n := 74) C dd_X6_isBestSound_2.2.2.2.2.2.1 rfl rfl (fun c_47 => ?_) (fun c_47 => ?_)
            · replace ho_35 := yf_f c_47 ho_35
              refine xr_iconst (n := 86) (v := 0) C dd_X6_isBestSound_2.2.2.2.2.2.2.2.2.2.2.2.1 rfl rfl ?_
              have e_48 := hx_35 _ (Option.some.inj ho_35).symm
              subst e_48
              replace ho_32 := ybr_r ho_32
              have e_49 := hx_32 _ (Option.some.inj ho_32).symm
              subst e_49
              replace hR := ybr_r hR
              obtain rfl := Option.some.inj hR
              exact ret 0 (by decide) ⟨rfl, rfl⟩ (Nat.le_of_ble_eq_true rfl) (Nat.le_of_ble_eq_true rfl) dd_X6_isBestSound_2.2.2.2.2.2.2.2.2.2.2.2.2.1
            · replace ho_35 := yf_t c_47 ho_35
              refine xr_iload_n (n := 75) (j := 0) C dd_X6_isBestSound_2.2.2.2.2.2.2.1 rfl rfl ?_
              refine xr_aload_n (n := 76) (j := 1) C dd_X6_isBestSound_2.2.2.2.2.2.2.2.1 rfl rfl ?_
              refine xr_get (n := 79) C 0 rfl rfl 4 (by decide) in_X6 u_293 rfl (v := .ref xy) rfl dd_X6_isBestSound_2.2.2.2.2.2.2.2.2.1 rfl ?_
              refine xr_getN (n := 82) C 2 rfl rfl 9 (by decide) in_X2 RX6 (List.mem_of_getElem? (i := 38) rfl) rfl (v := .int xy9) rfl dd_X6_isBestSound_2.2.2.2.2.2.2.2.2.2.1 rfl ?_
              refine xr_icmp_ge (tgt := 87) (n := 85) C dd_X6_isBestSound_2.2.2.2.2.2.2.2.2.2.2.1 rfl rfl (fun c_50 => ?_) (fun c_50 => ?_)
              · replace ho_35 := yf_t c_50 ho_35
                refine xr_iinc (j := 3) (v := s_35.1 + 1) (n := 90) C [(2, .int (s_35.1 + 1)), (3, .int x_38.1), (0, .ref x), (1, .int s_32.1)] dd_X6_isBestSound_2.2.2.2.2.2.2.2.2.2.2.2.2.2.1 rfl rfl (by decide) rfl rfl ?_
                refine xr_goto (tgt := 46) C dd_X6_isBestSound_2.2.2.2.2.2.2.2.2.2.2.2.2.2.2.1 rfl ?_
                refine xr_lv (lv' := [(0, .ref x), (1, .int s_32.1), (2, .int (s_35.1 + 1))]) [2, 3, 0] rfl ?_
                exact hk_35 (s_35.1 + 1, x_38.2.1, x_38.2.2.1, x_38.2.2.2.1, x_38.2.2.2.2.1, x_38.2.2.2.2.2.1, x_38.2.2.2.2.2.2.1, x_38.2.2.2.2.2.2.2) (Option.some.inj ho_35).symm
              · replace ho_35 := yf_f c_50 ho_35
                refine xr_iconst (n := 86) (v := 0) C dd_X6_isBestSound_2.2.2.2.2.2.2.2.2.2.2.2.1 rfl rfl ?_
                have e_51 := hx_35 _ (Option.some.inj ho_35).symm
                subst e_51
                replace ho_32 := ybr_r ho_32
                have e_52 := hx_32 _ (Option.some.inj ho_32).symm
                subst e_52
                replace hR := ybr_r hR
                obtain rfl := Option.some.inj hR
                exact ret 0 (by decide) ⟨rfl, rfl⟩ (Nat.le_of_ble_eq_true rfl) (Nat.le_of_ble_eq_true rfl) dd_X6_isBestSound_2.2.2.2.2.2.2.2.2.2.2.2.2.1
    · replace hR := yf_f c_31 hR
      refine xr_iconst (n := 35) (v := 0) C dd_X6_isBestSound_0.2.2.2.2.2.2.2.2.2.2.2.2.2.2.1 rfl rfl ?_
      obtain rfl := Option.some.inj hR
      exact ret 0 (by decide) ⟨rfl, rfl⟩ (Nat.le_of_ble_eq_true rfl) (Nat.le_of_ble_eq_true rfl) dd_X6_isBestSound_0.2.2.2.2.2.2.2.2.2.2.2.2.2.2.2.1
theorem dd_X6_doUsesAddUp_0 : dk_R cX6_doUsesAddUp [(0, .aload_n 0, 1), (1, .getfield 19, 3), (4, .invokevirtual 347, 3), (7, .aload_n 0, 1), (8, .getfield 33, 3), (11, .getfield 350, 3), (14, .aload_n 0, 1), (15, .getfield 33, 3), (18, .invokevirtual 353, 3), (21, .iadd, 1), (22, .if_icmp .ne 7, 3), (25, .iconst 1, 1), (26, .goto 4, 3), (29, .iconst 0, 1), (30, .ireturn, 1)] := dk_use _ _ (by decide +kernel)
def fX6_doUsesAddUp (xwuf : Nat → Int32) (xofr : Int32) (xofc : Int32) (xobt : Int32) (xobl : Int32) (xotk : Int32) (xoy0 : Int32) (xoy1 : Int32) (xoy2 : Int32) (xoy5 : Int32) (xoy6 : Int32) : Option (Int32) := ((fX0_sumOfUses xwuf).bind fun x_1 => ((fX5_takenInTile xofr xofc xobt xobl xoy0 xoy1 xoy2 xoy5 xoy6).bind fun x_5 => (if x_1 = (xotk + x_5) then some 1 else some 0)))
abbrev hX6_doUsesAddUp : Cond := .code yX6_doUsesAddUp cX6_doUsesAddUp 1 (some .boolean)
theorem mX6_doUsesAddUp : yM yX6_doUsesAddUp hX6_doUsesAddUp 0 := ⟨u_419, u_57, by decide +kernel, by decide +kernel, by decide +kernel⟩
set_option maxHeartbeats 4000000 in
set_option maxRecDepth 100000 in
theorem kX6_doUsesAddUp (l : Launch) (D : va_G) (cy : Nat → ClassId) (x : Nat) (xj : Nat) (xw : Nat) (xz : Nat) (xo : Nat) (xy : Nat) (xt : Nat) (xwu : Nat) (xwm : Nat) (xwb : Int32) (xwk : Int32) (xwun : Nat) (xwuf : Nat → Int32) (xoj : Nat) (xoy : Nat) (xosk : Int32) (xoti : Int32) (xofr : Int32) (xofc : Int32) (xobt : Int32) (xobl : Int32) (xobe : Int32) (xose : Int32) (xotk : Int32) (xoy0 : Int32) (xoy1 : Int32) (xoy2 : Int32) (xoy3 : Int32) (xoy4 : Int32) (xoy5 : Int32) (xoy6 : Int32) (xoy7 : Int32) (xoy8 : Int32) (xoy9 : Int32) {res : Int32} (hR : fX6_doUsesAddUp xwuf xofr xofc xobt xobl xotk xoy0 xoy1 xoy2 xoy5 xoy6 = some res) : YM l D cy yX6_doUsesAddUp hX6_doUsesAddUp 3 0 0 [.ref x] [[(x, .inr (8, [.ref xj, .ref xw, .ref xz, .ref xo, .ref xy, .ref xt]))], [(xw, .inr (2, [.ref xwu, .ref xwm, .int xwb, .int xwk]))], [(xwu, .inr (6, [.ref xwun]))], [(xwun, .inl (cy 1, 81, .inl xwuf))], [(xo, .inr (7, [.ref xoj, .ref xoy, .int xosk, .int xoti, .int xofr, .int xofc, .int xobt, .int xobl, .int xobe, .int xose, .int xotk]))], [(xoy, .inr (4, [.int xoy0, .int xoy1, .int xoy2, .int xoy3, .int xoy4, .int xoy5, .int xoy6, .int xoy7, .int xoy8, .int xoy9]))]] (fun v u => v = some (.int res) ∧ u = [[(x, .inr (8, [.ref xj, .ref xw, .ref xz, .ref xo, .ref xy, .ref xt]))], [(xw, .inr (2, [.ref xwu, .ref xwm, .int xwb, .int xwk]))], [(xwu, .inr (6, [.ref xwun]))], [(xwun, .inl (cy 1, 81, .inl xwuf))], [(xo, .inr (7, [.ref xoj, .ref xoy, .int xosk, .int xoti, .int xofr, .int xofc, .int xobt, .int xobl, .int xobe, .int xose, .int xotk]))], [(xoy, .inr (4, [.int xoy0, .int xoy1, .int xoy2, .int xoy3, .int xoy4, .int xoy5, .int xoy6, .int xoy7, .int xoy8, .int xoy9]))]]) := by
  unfold fX6_doUsesAddUp at hR
  refine YM.ofZ (cc := cX6_doUsesAddUp) (maxL := 1) (ret := (some .boolean)) (by decide +kernel) rfl (Nat.le_of_ble_eq_true rfl) [(0, .ref x)] rfl .boolean rfl (fun p e s m args below meth c A H0 Q C hnm ret => ?_)
  refine xr_aload_n (n := 1) (j := 0) C dd_X6_doUsesAddUp_0.1 rfl rfl ?_
  refine xr_get (n := 4) C 0 rfl rfl 1 (by decide) in_X6 u_290 rfl (v := .ref xw) rfl dd_X6_doUsesAddUp_0.2.1 rfl ?_
  obtain ⟨x_1, hx_1, hR⟩ := yf_b hR
  refine xr_callVp (n := 7) (As := []) (rest := []) C (kX0_sumOfUses l D cy (w := xw) (wu := xwu) (wm := xwm) (wb := xwb) (wk := xwk) (wun := xwun) (wuf := xwuf) hx_1) mX0_sumOfUses u_420 u_421 u_422 1 rfl rfl 6 [1, 2, 3] [0, 4, 5] rfl (by decide +kernel) rfl rfl rfl rfl (Nat.le_of_ble_eq_true rfl) (Nat.le_of_ble_eq_true rfl) (Nat.le_of_ble_eq_true rfl) (Nat.le_of_ble_eq_true rfl) (Nat.le_of_ble_eq_true rfl) dd_X6_doUsesAddUp_0.2.2.1 rfl (fun _ _ hp => hp.2) (fun v_2 hp_4 => ?_)
  obtain ⟨rfl, -⟩ := hp_4
  refine xr_st (st' := [.int x_1]) rfl ?_
  refine xr_aload_n (n := 8) (j := 0) C dd_X6_doUsesAddUp_0.2.2.2.1 rfl rfl ?_
  refine xr_get (n := 11) C 0 rfl rfl 3 (by decide) in_X6 u_292 rfl (v := .ref xo) rfl dd_X6_doUsesAddUp_0.2.2.2.2.1 rfl ?_
  refine xr_getN (n := 14) C 4 rfl rfl 10 (by decide) in_X5 RX6 (List.mem_of_getElem? (i := 43) rfl) rfl (v := .int xotk) rfl dd_X6_doUsesAddUp_0.2.2.2.2.2.1 rfl ?_
  refine xr_aload_n (n := 15) (j := 0) C dd_X6_doUsesAddUp_0.2.2.2.2.2.2.1 rfl rfl ?_
  refine xr_get (n := 18) C 0 rfl rfl 3 (by decide) in_X6 u_292 rfl (v := .ref xo) rfl dd_X6_doUsesAddUp_0.2.2.2.2.2.2.2.1 rfl ?_
  obtain ⟨x_5, hx_5, hR⟩ := yf_b hR
  refine xr_callVp (n := 21) (As := []) (rest := [.int xotk, .int x_1]) C (kX5_takenInTile l D cy (o := xo) (oj := xoj) (oy := xoy) (osk := xosk) (oti := xoti) (ofr := xofr) (ofc := xofc) (obt := xobt) (obl := xobl) (obe := xobe) (ose := xose) (otk := xotk) (oy0 := xoy0) (oy1 := xoy1) (oy2 := xoy2) (oy3 := xoy3) (oy4 := xoy4) (oy5 := xoy5) (oy6 := xoy6) (oy7 := xoy7) (oy8 := xoy8) (oy9 := xoy9) hx_5) mX5_takenInTile u_425 u_426 u_427 4 rfl rfl 6 [4, 5] [0, 1, 2, 3] rfl (by decide +kernel) rfl rfl rfl rfl (Nat.le_of_ble_eq_true rfl) (Nat.le_of_ble_eq_true rfl) (Nat.le_of_ble_eq_true rfl) (Nat.le_of_ble_eq_true rfl) (Nat.le_of_ble_eq_true rfl) dd_X6_doUsesAddUp_0.2.2.2.2.2.2.2.2.1 rfl (fun _ _ hp => hp.2) (fun v_6 hp_8 => ?_)
  obtain ⟨rfl, -⟩ := hp_8
  refine xr_st (st' := [.int x_5, .int xotk, .int x_1]) rfl ?_
  refine xr_iadd (n := 22) C dd_X6_doUsesAddUp_0.2.2.2.2.2.2.2.2.2.1 rfl ?_
  refine xr_icmp_ne (tgt := 29) (n := 25) C dd_X6_doUsesAddUp_0.2.2.2.2.2.2.2.2.2.2.1 rfl rfl (fun c_9 => ?_) (fun c_9 => ?_)
  · replace hR := yf_f c_9 hR
    refine xr_iconst (n := 30) (v := 0) C dd_X6_doUsesAddUp_0.2.2.2.2.2.2.2.2.2.2.2.2.2.1 rfl rfl ?_
    obtain rfl := Option.some.inj hR
    exact ret 0 (by decide) ⟨rfl, rfl⟩ (Nat.le_of_ble_eq_true rfl) (Nat.le_of_ble_eq_true rfl) dd_X6_doUsesAddUp_0.2.2.2.2.2.2.2.2.2.2.2.2.2.2.1
  · replace hR := yf_t c_9 hR
    refine xr_iconst (n := 26) (v := 1) C dd_X6_doUsesAddUp_0.2.2.2.2.2.2.2.2.2.2.2.1 rfl rfl ?_
    refine xr_goto (tgt := 30) C dd_X6_doUsesAddUp_0.2.2.2.2.2.2.2.2.2.2.2.2.1 rfl ?_
    obtain rfl := Option.some.inj hR
    exact ret 1 (by decide) ⟨rfl, rfl⟩ (Nat.le_of_ble_eq_true rfl) (Nat.le_of_ble_eq_true rfl) dd_X6_doUsesAddUp_0.2.2.2.2.2.2.2.2.2.2.2.2.2.2.1
theorem dd_X6_isAllSound_0 : dk_R cX6_isAllSound [(0, .aload_n 0, 1), (1, .invokevirtual 335, 3), (4, .ifCond .eq 34, 3), (7, .aload_n 0, 1), (8, .getfield 19, 3), (11, .invokevirtual 338, 3), (14, .ifCond .eq 24, 3), (17, .aload_n 0, 1), (18, .invokevirtual 341, 3), (21, .ifCond .eq 17, 3), (24, .aload_n 0, 1), (25, .getfield 33, 3), (28, .invokevirtual 344, 3), (31, .ifCond .eq 7, 3), (34, .iconst 1, 1), (35, .goto 4, 3)] := dk_use _ _ (by decide +kernel)
theorem dd_X6_isAllSound_1 : dk_R cX6_isAllSound [(38, .iconst 0, 1), (39, .ireturn, 1)] := dk_use _ _ (by decide +kernel)
def fX6_isAllSound (xwb : Int32) (xwk : Int32) (xwuf : Nat → Int32) (xoti : Int32) (xofr : Int32) (xofc : Int32) (xobt : Int32) (xobl : Int32) (xotk : Int32) (xoy0 : Int32) (xoy1 : Int32) (xoy2 : Int32) (xoy5 : Int32) (xoy6 : Int32) (xoy7 : Int32) (xoy8 : Int32) (xy3 : Int32) (xy4 : Int32) (xy9 : Int32) (xt0 : Int32) (xt1 : Int32) (xt2 : Int32) (xt3 : Int32) (xt4 : Int32) (xt5 : Int32) (xt6 : Int32) (xt7 : Int32) (xt8 : Int32) (xt9 : Int32) : Option (Int32 × Int32 × Int32 × Int32 × Int32 × Int32 × Int32 × Int32) := ((fX6_isBestSound xwk xy3 xy4 xy9 xt0 xt1 xt2 xt3 xt4 xt5 xt6 xt7 xt8 xt9).bind fun x_1 => (if x_1.1 = 0 then some (0, x_1.2.1, x_1.2.2.1, x_1.2.2.2.1, x_1.2.2.2.2.1, x_1.2.2.2.2.2.1, x_1.2.2.2.2.2.2.1, x_1.2.2.2.2.2.2.2) else ((fX0_areKnownBroken xwb xwk).bind fun x_6 => (if x_6 = 0 then some (0, x_1.2.1, x_1.2.2.1, x_1.2.2.2.1, x_1.2.2.2.2.1, x_1.2.2.2.2.2.1, x_1.2.2.2.2.2.2.1, x_1.2.2.2.2.2.2.2) else ((fX6_doUsesAddUp xwuf xofr xofc xobt xobl xotk xoy0 xoy1 xoy2 xoy5 xoy6).bind fun x_11 => (if x_11 = 0 then some (0, x_1.2.1, x_1.2.2.1, x_1.2.2.2.1, x_1.2.2.2.2.1, x_1.2.2.2.2.2.1, x_1.2.2.2.2.2.2.1, x_1.2.2.2.2.2.2.2) else ((fX5_isUnfinished xoti xofr xofc xobt xobl xoy0 xoy1 xoy2 xoy5 xoy6 xoy7 xoy8).bind fun x_16 => (if x_16 = 0 then some (0, x_1.2.1, x_1.2.2.1, x_1.2.2.2.1, x_1.2.2.2.2.1, x_1.2.2.2.2.2.1, x_1.2.2.2.2.2.2.1, x_1.2.2.2.2.2.2.2) else some (1, x_1.2.1, x_1.2.2.1, x_1.2.2.2.1, x_1.2.2.2.2.1, x_1.2.2.2.2.2.1, x_1.2.2.2.2.2.2.1, x_1.2.2.2.2.2.2.2)))))))))
abbrev hX6_isAllSound : Cond := .code yX6_isAllSound cX6_isAllSound 1 (some .boolean)
theorem mX6_isAllSound : yM yX6_isAllSound hX6_isAllSound 0 := ⟨u_398, u_57, by decide +kernel, by decide +kernel, by decide +kernel⟩
set_option maxHeartbeats 4000000 in
set_option maxRecDepth 100000 in
theorem kX6_isAllSound (l : Launch) (D : va_G) (cy : Nat → ClassId) (x : Nat) (xj : Nat) (xw : Nat) (xz : Nat) (xo : Nat) (xy : Nat) (xt : Nat) (xwu : Nat) (xwm : Nat) (xwb : Int32) (xwk : Int32) (xwun : Nat) (xwuf : Nat → Int32) (xoj : Nat) (xoy : Nat) (xosk : Int32) (xoti : Int32) (xofr : Int32) (xofc : Int32) (xobt : Int32) (xobl : Int32) (xobe : Int32) (xose : Int32) (xotk : Int32) (xoy0 : Int32) (xoy1 : Int32) (xoy2 : Int32) (xoy3 : Int32) (xoy4 : Int32) (xoy5 : Int32) (xoy6 : Int32) (xoy7 : Int32) (xoy8 : Int32) (xoy9 : Int32) (xy0 : Int32) (xy1 : Int32) (xy2 : Int32) (xy3 : Int32) (xy4 : Int32) (xy5 : Int32) (xy6 : Int32) (xy7 : Int32) (xy8 : Int32) (xy9 : Int32) (xt0 : Int32) (xt1 : Int32) (xt2 : Int32) (xt3 : Int32) (xt4 : Int32) (xt5 : Int32) (xt6 : Int32) (xt7 : Int32) (xt8 : Int32) (xt9 : Int32) {res : Int32 × Int32 × Int32 × Int32 × Int32 × Int32 × Int32 × Int32} (hR : fX6_isAllSound xwb xwk xwuf xoti xofr xofc xobt xobl xotk xoy0 xoy1 xoy2 xoy5 xoy6 xoy7 xoy8 xy3 xy4 xy9 xt0 xt1 xt2 xt3 xt4 xt5 xt6 xt7 xt8 xt9 = some res) : YM l D cy yX6_isAllSound hX6_isAllSound 5 0 0 [.ref x] [[(x, .inr (8, [.ref xj, .ref xw, .ref xz, .ref xo, .ref xy, .ref xt]))], [(xw, .inr (2, [.ref xwu, .ref xwm, .int xwb, .int xwk]))], [(xwu, .inr (6, [.ref xwun]))], [(xwun, .inl (cy 1, 81, .inl xwuf))], [(xo, .inr (7, [.ref xoj, .ref xoy, .int xosk, .int xoti, .int xofr, .int xofc, .int xobt, .int xobl, .int xobe, .int xose, .int xotk]))], [(xoy, .inr (4, [.int xoy0, .int xoy1, .int xoy2, .int xoy3, .int xoy4, .int xoy5, .int xoy6, .int xoy7, .int xoy8, .int xoy9]))], [(xy, .inr (4, [.int xy0, .int xy1, .int xy2, .int xy3, .int xy4, .int xy5, .int xy6, .int xy7, .int xy8, .int xy9]))], [(xt, .inr (4, [.int xt0, .int xt1, .int xt2, .int xt3, .int xt4, .int xt5, .int xt6, .int xt7, .int xt8, .int xt9]))]] (fun v u => v = some (.int res.1) ∧ u = [[(x, .inr (8, [.ref xj, .ref xw, .ref xz, .ref xo, .ref xy, .ref xt]))], [(xw, .inr (2, [.ref xwu, .ref xwm, .int xwb, .int xwk]))], [(xwu, .inr (6, [.ref xwun]))], [(xwun, .inl (cy 1, 81, .inl xwuf))], [(xo, .inr (7, [.ref xoj, .ref xoy, .int xosk, .int xoti, .int xofr, .int xofc, .int xobt, .int xobl, .int xobe, .int xose, .int xotk]))], [(xoy, .inr (4, [.int xoy0, .int xoy1, .int xoy2, .int xoy3, .int xoy4, .int xoy5, .int xoy6, .int xoy7, .int xoy8, .int xoy9]))], [(xy, .inr (4, [.int xy0, .int xy1, .int xy2, .int xy3, .int xy4, .int xy5, .int xy6, .int xy7, .int xy8, .int xy9]))], [(xt, .inr (4, [.int xt0, .int xt1, .int xt2, .int res.2.1, .int res.2.2.1, .int res.2.2.2.1, .int res.2.2.2.2.1, .int res.2.2.2.2.2.1, .int res.2.2.2.2.2.2.1, .int res.2.2.2.2.2.2.2]))]]) := by
  unfold fX6_isAllSound at hR
  refine YM.ofZ (cc := cX6_isAllSound) (maxL := 1) (ret := (some .boolean)) (by decide +kernel) rfl (Nat.le_of_ble_eq_true rfl) [(0, .ref x)] rfl .boolean rfl (fun p e s m args below meth c A H0 Q C hnm ret => ?_)
  refine xr_aload_n (n := 1) (j := 0) C dd_X6_isAllSound_0.1 rfl rfl ?_
  obtain ⟨x_1, hx_1, hR⟩ := yf_b hR
  refine xr_callV (n := 4) (As := []) (rest := []) C (kX6_isBestSound l D cy (x := x) (xj := xj) (xw := xw) (xz := xz) (xo := xo) (xy := xy) (xt := xt) (xwu := xwu) (xwm := xwm) (xwb := xwb) (xwk := xwk) (xy0 := xy0) (xy1 := xy1) (xy2 := xy2) (xy3 := xy3) (xy4 := xy4) (xy5 := xy5) (xy6 := xy6) (xy7 := xy7) (xy8 := xy8) (xy9 := xy9) (xt0 := xt0) (xt1 := xt1) (xt2 := xt2) (xt3 := xt3) (xt4 := xt4) (xt5 := xt5) (xt6 := xt6) (xt7 := xt7) (xt8 := xt8) (xt9 := xt9) hx_1) mX6_isBestSound u_399 u_401 u_7 0 rfl rfl 8 [0, 1, 6, 7] [2, 3, 4, 5] rfl (by decide +kernel) rfl rfl rfl rfl (Nat.le_of_ble_eq_true rfl) (Nat.le_of_ble_eq_true rfl) (Nat.le_of_ble_eq_true rfl) (Nat.le_of_ble_eq_true rfl) (Nat.le_of_ble_eq_true rfl) dd_X6_isAllSound_0.2.1 rfl (fun v_2 u_3 hp_4 => ?_)
  obtain ⟨rfl, rfl⟩ := hp_4
  refine xr_perm C 8 [0, 1, 4, 5, 6, 7, 2, 3] [] [[(x, .inr (8, [.ref xj, .ref xw, .ref xz, .ref xo, .ref xy, .ref xt]))], [(xw, .inr (2, [.ref xwu, .ref xwm, .int xwb, .int xwk]))], [(xwu, .inr (6, [.ref xwun]))], [(xwun, .inl (cy 1, 81, .inl xwuf))], [(xo, .inr (7, [.ref xoj, .ref xoy, .int xosk, .int xoti, .int xofr, .int xofc, .int xobt, .int xobl, .int xobe, .int xose, .int xotk]))], [(xoy, .inr (4, [.int xoy0, .int xoy1, .int xoy2, .int xoy3, .int xoy4, .int xoy5, .int xoy6, .int xoy7, .int xoy8, .int xoy9]))], [(xy, .inr (4, [.int xy0, .int xy1, .int xy2, .int xy3, .int xy4, .int xy5, .int xy6, .int xy7, .int xy8, .int xy9]))], [(xt, .inr (4, [.int xt0, .int xt1, .int xt2, .int x_1.2.1, .int x_1.2.2.1, .int x_1.2.2.2.1, .int x_1.2.2.2.2.1, .int x_1.2.2.2.2.2.1, .int x_1.2.2.2.2.2.2.1, .int x_1.2.2.2.2.2.2.2]))]] rfl (by decide +kernel) rfl ?_
  refine xr_st (st' := [.int x_1.1]) rfl ?_
  refine xr_if_eq (tgt := 38) (n := 7) C dd_X6_isAllSound_0.2.2.1 rfl rfl (fun c_5 => ?_) (fun c_5 => ?_)
  · replace hR := yf_t c_5 hR
    refine xr_iconst (n := 39) (v := 0) C dd_X6_isAllSound_1.1 rfl rfl ?_
    obtain rfl := Option.some.inj hR
    exact ret 0 (by decide) ⟨rfl, rfl⟩ (Nat.le_of_ble_eq_true rfl) (Nat.le_of_ble_eq_true rfl) dd_X6_isAllSound_1.2.1
  · replace hR := yf_f c_5 hR
    refine xr_aload_n (n := 8) (j := 0) C dd_X6_isAllSound_0.2.2.2.1 rfl rfl ?_
    refine xr_get (n := 11) C 0 rfl rfl 1 (by decide) in_X6 u_290 rfl (v := .ref xw) rfl dd_X6_isAllSound_0.2.2.2.2.1 rfl ?_
    obtain ⟨x_6, hx_6, hR⟩ := yf_b hR
    refine xr_callVp (n := 14) (As := []) (rest := []) C (kX0_areKnownBroken l D cy (w := xw) (wu := xwu) (wm := xwm) (wb := xwb) (wk := xwk) hx_6) mX0_areKnownBroken u_412 u_413 u_414 1 rfl rfl 8 [1] [0, 2, 3, 4, 5, 6, 7] rfl (by decide +kernel) rfl rfl rfl rfl (Nat.le_of_ble_eq_true rfl) (Nat.le_of_ble_eq_true rfl) (Nat.le_of_ble_eq_true rfl) (Nat.le_of_ble_eq_true rfl) (Nat.le_of_ble_eq_true rfl) dd_X6_isAllSound_0.2.2.2.2.2.1 rfl (fun _ _ hp => hp.2) (fun v_7 hp_9 => ?_)
    obtain ⟨rfl, -⟩ := hp_9
    refine xr_st (st' := [.int x_6]) rfl ?_
    refine xr_if_eq (tgt := 38) (n := 17) C dd_X6_isAllSound_0.2.2.2.2.2.2.1 rfl rfl (fun c_10 => ?_) (fun c_10 => ?_)
    · replace hR := yf_t c_10 hR
      refine xr_iconst (n := 39) (v := 0) C dd_X6_isAllSound_1.1 rfl rfl ?_
      obtain rfl := Option.some.inj hR
      exact ret 0 (by decide) ⟨rfl, rfl⟩ (Nat.le_of_ble_eq_true rfl) (Nat.le_of_ble_eq_true rfl) dd_X6_isAllSound_1.2.1
    · replace hR := yf_f c_10 hR
      refine xr_aload_n (n := 18) (j := 0) C dd_X6_isAllSound_0.2.2.2.2.2.2.2.1 rfl rfl ?_
      obtain ⟨x_11, hx_11, hR⟩ := yf_b hR
      refine xr_callVp (n := 21) (As := []) (rest := []) C (kX6_doUsesAddUp l D cy (x := x) (xj := xj) (xw := xw) (xz := xz) (xo := xo) (xy := xy) (xt := xt) (xwu := xwu) (xwm := xwm) (xwb := xwb) (xwk := xwk) (xwun := xwun) (xwuf := xwuf) (xoj := xoj) (xoy := xoy) (xosk := xosk) (xoti := xoti) (xofr := xofr) (xofc := xofc) (xobt := xobt) (xobl := xobl) (xobe := xobe) (xose := xose) (xotk := xotk) (xoy0 := xoy0) (xoy1 := xoy1) (xoy2 := xoy2) (xoy3 := xoy3) (xoy4 := xoy4) (xoy5 := xoy5) (xoy6 := xoy6) (xoy7 := xoy7) (xoy8 := xoy8) (xoy9 := xoy9) hx_11) mX6_doUsesAddUp u_416 u_418 u_9 0 rfl rfl 8 [0, 1, 2, 3, 4, 5] [6, 7] rfl (by decide +kernel) rfl rfl rfl rfl (Nat.le_of_ble_eq_true rfl) (Nat.le_of_ble_eq_true rfl) (Nat.le_of_ble_eq_true rfl) (Nat.le_of_ble_eq_true rfl) (Nat.le_of_ble_eq_true rfl) dd_X6_isAllSound_0.2.2.2.2.2.2.2.2.1 rfl (fun _ _ hp => hp.2) (fun v_12 hp_14 => ?_)
      obtain ⟨rfl, -⟩ := hp_14
      refine xr_st (st' := [.int x_11]) rfl ?_
      refine xr_if_eq (tgt := 38) (n := 24) C dd_X6_isAllSound_0.2.2.2.2.2.2.2.2.2.1 rfl rfl (fun c_15 => ?_) (fun c_15 => ?_)
      · replace hR := yf_t c_15 hR
        refine xr_iconst (n := 39) (v := 0) C dd_X6_isAllSound_1.1 rfl rfl ?_
        obtain rfl := Option.some.inj hR
        exact ret 0 (by decide) ⟨rfl, rfl⟩ (Nat.le_of_ble_eq_true rfl) (Nat.le_of_ble_eq_true rfl) dd_X6_isAllSound_1.2.1
      · replace hR := yf_f c_15 hR
        refine xr_aload_n (n := 25) (j := 0) C dd_X6_isAllSound_0.2.2.2.2.2.2.2.2.2.2.1 rfl rfl ?_
        refine xr_get (n := 28) C 0 rfl rfl 3 (by decide) in_X6 u_292 rfl (v := .ref xo) rfl dd_X6_isAllSound_0.2.2.2.2.2.2.2.2.2.2.2.1 rfl ?_
        obtain ⟨x_16, hx_16, hR⟩ := yf_b hR
        refine xr_callVp (n := 31) (As := []) (rest := []) C (kX5_isUnfinished l D cy (o := xo) (oj := xoj) (oy := xoy) (osk := xosk) (oti := xoti) (ofr := xofr) (ofc := xofc) (obt := xobt) (obl := xobl) (obe := xobe) (ose := xose) (otk := xotk) (oy0 := xoy0) (oy1 := xoy1) (oy2 := xoy2) (oy3 := xoy3) (oy4 := xoy4) (oy5 := xoy5) (oy6 := xoy6) (oy7 := xoy7) (oy8 := xoy8) (oy9 := xoy9) hx_16) mX5_isUnfinished u_447 u_448 u_449 4 rfl rfl 8 [4, 5] [0, 1, 2, 3, 6, 7] rfl (by decide +kernel) rfl rfl rfl rfl (Nat.le_of_ble_eq_true rfl) (Nat.le_of_ble_eq_true rfl) (Nat.le_of_ble_eq_true rfl) (Nat.le_of_ble_eq_true rfl) (Nat.le_of_ble_eq_true rfl) dd_X6_isAllSound_0.2.2.2.2.2.2.2.2.2.2.2.2.1 rfl (fun _ _ hp => hp.2) (fun v_17 hp_19 => ?_)
        obtain ⟨rfl, -⟩ := hp_19
        refine xr_st (st' := [.int x_16]) rfl ?_
        refine xr_if_eq (tgt := 38) (n := 34) C dd_X6_isAllSound_0.2.2.2.2.2.2.2.2.2.2.2.2.2.1 rfl rfl (fun c_20 => ?_) (fun c_20 => ?_)
        · replace hR := yf_t c_20 hR
          refine xr_iconst (n := 39) (v := 0) C dd_X6_isAllSound_1.1 rfl rfl ?_
          obtain rfl := Option.some.inj hR
          exact ret 0 (by decide) ⟨rfl, rfl⟩ (Nat.le_of_ble_eq_true rfl) (Nat.le_of_ble_eq_true rfl) dd_X6_isAllSound_1.2.1
        · replace hR := yf_f c_20 hR
          refine xr_iconst (n := 35) (v := 1) C dd_X6_isAllSound_0.2.2.2.2.2.2.2.2.2.2.2.2.2.2.1 rfl rfl ?_
          refine xr_goto (tgt := 39) C dd_X6_isAllSound_0.2.2.2.2.2.2.2.2.2.2.2.2.2.2.2.1 rfl ?_
          obtain rfl := Option.some.inj hR
          exact ret 1 (by decide) ⟨rfl, rfl⟩ (Nat.le_of_ble_eq_true rfl) (Nat.le_of_ble_eq_true rfl) dd_X6_isAllSound_1.2.1
theorem dd_X6_isSound_0 : dk_R cX6_isSound [(0, .aload_n 0, 1), (1, .invokevirtual 143, 3), (4, .aload_n 0, 1), (5, .invokevirtual 246, 3), (8, .ireturn, 1)] := dk_use _ _ (by decide +kernel)
def fX6_isSound (xjr : Int32) (xjk : Int32) (xjc : Int32) (xjg : Int32) (xjs : Int32) (xjaf : Nat → Int32) (xjbf : Nat → Int32) (xwb : Int32) (xwk : Int32) (xwuf : Nat → Int32) (xoti : Int32) (xofr : Int32) (xofc : Int32) (xobt : Int32) (xobl : Int32) (xotk : Int32) (xoy0 : Int32) (xoy1 : Int32) (xoy2 : Int32) (xoy5 : Int32) (xoy6 : Int32) (xoy7 : Int32) (xoy8 : Int32) (xt3 : Int32) (xt4 : Int32) (xt5 : Int32) (xt6 : Int32) (xt7 : Int32) (xt8 : Int32) (xt9 : Int32) : Option (Int32 × Int32 × Int32 × Int32 × Int32 × Int32 × Int32 × Int32 × Int32 × Int32 × Int32 × Int32 × Int32 × Int32 × Int32 × Int32 × Int32 × Int32 × Int32 × Int32 × Int32) := ((fX6_findBest xjr xjk xjc xjg xjs xjaf xjbf xwk xt3 xt4 xt5 xt6 xt7 xt8 xt9).bind fun x_1 => ((fX6_isAllSound xwb xwk xwuf xoti xofr xofc xobt xobl xotk xoy0 xoy1 xoy2 xoy5 xoy6 xoy7 xoy8 x_1.2.2.2.1 x_1.2.2.2.2.1 x_1.2.2.2.2.2.2.2.2.2.1 x_1.2.2.2.2.2.2.2.2.2.2.1 x_1.2.2.2.2.2.2.2.2.2.2.2.1 x_1.2.2.2.2.2.2.2.2.2.2.2.2.1 x_1.2.2.2.2.2.2.2.2.2.2.2.2.2.1 x_1.2.2.2.2.2.2.2.2.2.2.2.2.2.2.1 x_1.2.2.2.2.2.2.2.2.2.2.2.2.2.2.2.1 x_1.2.2.2.2.2.2.2.2.2.2.2.2.2.2.2.2.1 x_1.2.2.2.2.2.2.2.2.2.2.2.2.2.2.2.2.2.1 x_1.2.2.2.2.2.2.2.2.2.2.2.2.2.2.2.2.2.2.1 x_1.2.2.2.2.2.2.2.2.2.2.2.2.2.2.2.2.2.2.2).bind fun x_5 => (if x_5.1 = 0 ∨ x_5.1 = 1 then some (x_5.1, x_1.1, x_1.2.1, x_1.2.2.1, x_1.2.2.2.1, x_1.2.2.2.2.1, x_1.2.2.2.2.2.1, x_1.2.2.2.2.2.2.1, x_1.2.2.2.2.2.2.2.1, x_1.2.2.2.2.2.2.2.2.1, x_1.2.2.2.2.2.2.2.2.2.1, x_1.2.2.2.2.2.2.2.2.2.2.1, x_1.2.2.2.2.2.2.2.2.2.2.2.1, x_1.2.2.2.2.2.2.2.2.2.2.2.2.1, x_5.2.1, x_5.2.2.1, x_5.2.2.2.1, x_5.2.2.2.2.1, x_5.2.2.2.2.2.1, x_5.2.2.2.2.2.2.1, x_5.2.2.2.2.2.2.2) else none)))
abbrev hX6_isSound : Cond := .code yX6_isSound cX6_isSound 1 (some .boolean)
theorem mX6_isSound : yM yX6_isSound hX6_isSound 0 := ⟨u_394, u_57, by decide +kernel, by decide +kernel, by decide +kernel⟩
set_option maxHeartbeats 4000000 in
set_option maxRecDepth 100000 in
theorem kX6_isSound (l : Launch) (D : va_G) (cy : Nat → ClassId) (x : Nat) (xj : Nat) (xw : Nat) (xz : Nat) (xo : Nat) (xy : Nat) (xt : Nat) (xja : Nat) (xjb : Nat) (xjr : Int32) (xjk : Int32) (xjc : Int32) (xjg : Int32) (xjs : Int32) (xjan : Nat) (xjaf : Nat → Int32) (xjbn : Nat) (xjbf : Nat → Int32) (xwu : Nat) (xwm : Nat) (xwb : Int32) (xwk : Int32) (xwun : Nat) (xwuf : Nat → Int32) (xoj : Nat) (xoy : Nat) (xosk : Int32) (xoti : Int32) (xofr : Int32) (xofc : Int32) (xobt : Int32) (xobl : Int32) (xobe : Int32) (xose : Int32) (xotk : Int32) (xoy0 : Int32) (xoy1 : Int32) (xoy2 : Int32) (xoy3 : Int32) (xoy4 : Int32) (xoy5 : Int32) (xoy6 : Int32) (xoy7 : Int32) (xoy8 : Int32) (xoy9 : Int32) (xy0 : Int32) (xy1 : Int32) (xy2 : Int32) (xy3 : Int32) (xy4 : Int32) (xy5 : Int32) (xy6 : Int32) (xy7 : Int32) (xy8 : Int32) (xy9 : Int32) (xt0 : Int32) (xt1 : Int32) (xt2 : Int32) (xt3 : Int32) (xt4 : Int32) (xt5 : Int32) (xt6 : Int32) (xt7 : Int32) (xt8 : Int32) (xt9 : Int32) {res : Int32 × Int32 × Int32 × Int32 × Int32 × Int32 × Int32 × Int32 × Int32 × Int32 × Int32 × Int32 × Int32 × Int32 × Int32 × Int32 × Int32 × Int32 × Int32 × Int32 × Int32} (hR : fX6_isSound xjr xjk xjc xjg xjs xjaf xjbf xwb xwk xwuf xoti xofr xofc xobt xobl xotk xoy0 xoy1 xoy2 xoy5 xoy6 xoy7 xoy8 xt3 xt4 xt5 xt6 xt7 xt8 xt9 = some res) : YM l D cy yX6_isSound hX6_isSound 7 0 0 [.ref x] [[(x, .inr (8, [.ref xj, .ref xw, .ref xz, .ref xo, .ref xy, .ref xt]))], [(xj, .inr (3, [.ref xja, .ref xjb, .int xjr, .int xjk, .int xjc, .int xjg, .int xjs]))], [(xja, .inr (6, [.ref xjan]))], [(xjan, .inl (cy 1, 81, .inl xjaf))], [(xjb, .inr (6, [.ref xjbn]))], [(xjbn, .inl (cy 1, 81, .inl xjbf))], [(xw, .inr (2, [.ref xwu, .ref xwm, .int xwb, .int xwk]))], [(xwu, .inr (6, [.ref xwun]))], [(xwun, .inl (cy 1, 81, .inl xwuf))], [(xo, .inr (7, [.ref xoj, .ref xoy, .int xosk, .int xoti, .int xofr, .int xofc, .int xobt, .int xobl, .int xobe, .int xose, .int xotk]))], [(xoy, .inr (4, [.int xoy0, .int xoy1, .int xoy2, .int xoy3, .int xoy4, .int xoy5, .int xoy6, .int xoy7, .int xoy8, .int xoy9]))], [(xy, .inr (4, [.int xy0, .int xy1, .int xy2, .int xy3, .int xy4, .int xy5, .int xy6, .int xy7, .int xy8, .int xy9]))], [(xt, .inr (4, [.int xt0, .int xt1, .int xt2, .int xt3, .int xt4, .int xt5, .int xt6, .int xt7, .int xt8, .int xt9]))]] (fun v u => v = some (.int res.1) ∧ u = [[(x, .inr (8, [.ref xj, .ref xw, .ref xz, .ref xo, .ref xy, .ref xt]))], [(xj, .inr (3, [.ref xja, .ref xjb, .int xjr, .int xjk, .int xjc, .int xjg, .int xjs]))], [(xja, .inr (6, [.ref xjan]))], [(xjan, .inl (cy 1, 81, .inl xjaf))], [(xjb, .inr (6, [.ref xjbn]))], [(xjbn, .inl (cy 1, 81, .inl xjbf))], [(xw, .inr (2, [.ref xwu, .ref xwm, .int xwb, .int xwk]))], [(xwu, .inr (6, [.ref xwun]))], [(xwun, .inl (cy 1, 81, .inl xwuf))], [(xo, .inr (7, [.ref xoj, .ref xoy, .int xosk, .int xoti, .int xofr, .int xofc, .int xobt, .int xobl, .int xobe, .int xose, .int xotk]))], [(xoy, .inr (4, [.int xoy0, .int xoy1, .int xoy2, .int xoy3, .int xoy4, .int xoy5, .int xoy6, .int xoy7, .int xoy8, .int xoy9]))], [(xy, .inr (4, [.int res.2.1, .int res.2.2.1, .int res.2.2.2.1, .int res.2.2.2.2.1, .int res.2.2.2.2.2.1, .int res.2.2.2.2.2.2.1, .int res.2.2.2.2.2.2.2.1, .int res.2.2.2.2.2.2.2.2.1, .int res.2.2.2.2.2.2.2.2.2.1, .int res.2.2.2.2.2.2.2.2.2.2.1]))], [(xt, .inr (4, [.int res.2.2.2.2.2.2.2.2.2.2.2.1, .int res.2.2.2.2.2.2.2.2.2.2.2.2.1, .int res.2.2.2.2.2.2.2.2.2.2.2.2.2.1, .int res.2.2.2.2.2.2.2.2.2.2.2.2.2.2.1, .int res.2.2.2.2.2.2.2.2.2.2.2.2.2.2.2.1, .int res.2.2.2.2.2.2.2.2.2.2.2.2.2.2.2.2.1, .int res.2.2.2.2.2.2.2.2.2.2.2.2.2.2.2.2.2.1, .int res.2.2.2.2.2.2.2.2.2.2.2.2.2.2.2.2.2.2.1, .int res.2.2.2.2.2.2.2.2.2.2.2.2.2.2.2.2.2.2.2.1, .int res.2.2.2.2.2.2.2.2.2.2.2.2.2.2.2.2.2.2.2.2]))]]) := by
  unfold fX6_isSound at hR
  refine YM.ofZ (cc := cX6_isSound) (maxL := 1) (ret := (some .boolean)) (by decide +kernel) rfl (Nat.le_of_ble_eq_true rfl) [(0, .ref x)] rfl .boolean rfl (fun p e s m args below meth c A H0 Q C hnm ret => ?_)
  refine xr_aload_n (n := 1) (j := 0) C dd_X6_isSound_0.1 rfl rfl ?_
  obtain ⟨x_1, hx_1, hR⟩ := yf_b hR
  refine xr_callV (n := 4) (As := []) (rest := []) C (kX6_findBest l D cy (x := x) (xj := xj) (xw := xw) (xz := xz) (xo := xo) (xy := xy) (xt := xt) (xja := xja) (xjb := xjb) (xjr := xjr) (xjk := xjk) (xjc := xjc) (xjg := xjg) (xjs := xjs) (xjan := xjan) (xjaf := xjaf) (xjbn := xjbn) (xjbf := xjbf) (xwu := xwu) (xwm := xwm) (xwb := xwb) (xwk := xwk) (xy0 := xy0) (xy1 := xy1) (xy2 := xy2) (xy3 := xy3) (xy4 := xy4) (xy5 := xy5) (xy6 := xy6) (xy7 := xy7) (xy8 := xy8) (xy9 := xy9) (xt0 := xt0) (xt1 := xt1) (xt2 := xt2) (xt3 := xt3) (xt4 := xt4) (xt5 := xt5) (xt6 := xt6) (xt7 := xt7) (xt8 := xt8) (xt9 := xt9) hx_1) mX6_findBest u_312 u_314 u_0 0 rfl rfl 13 [0, 1, 2, 3, 4, 5, 6, 11, 12] [7, 8, 9, 10] rfl (by decide +kernel) rfl rfl rfl rfl (Nat.le_of_ble_eq_true rfl) (Nat.le_of_ble_eq_true rfl) (Nat.le_of_ble_eq_true rfl) (Nat.le_of_ble_eq_true rfl) (Nat.le_of_ble_eq_true rfl) dd_X6_isSound_0.2.1 rfl (fun v_2 u_3 hp_4 => ?_)
  obtain ⟨rfl, rfl⟩ := hp_4
  refine xr_perm C 13 [0, 1, 2, 3, 4, 5, 6, 9, 10, 11, 12, 7, 8] [] [[(x, .inr (8, [.ref xj, .ref xw, .ref xz, .ref xo, .ref xy, .ref xt]))], [(xj, .inr (3, [.ref xja, .ref xjb, .int xjr, .int xjk, .int xjc, .int xjg, .int xjs]))], [(xja, .inr (6, [.ref xjan]))], [(xjan, .inl (cy 1, 81, .inl xjaf))], [(xjb, .inr (6, [.ref xjbn]))], [(xjbn, .inl (cy 1, 81, .inl xjbf))], [(xw, .inr (2, [.ref xwu, .ref xwm, .int xwb, .int xwk]))], [(xwu, .inr (6, [.ref xwun]))], [(xwun, .inl (cy 1, 81, .inl xwuf))], [(xo, .inr (7, [.ref xoj, .ref xoy, .int xosk, .int xoti, .int xofr, .int xofc, .int xobt, .int xobl, .int xobe, .int xose, .int xotk]))], [(xoy, .inr (4, [.int xoy0, .int xoy1, .int xoy2, .int xoy3, .int xoy4, .int xoy5, .int xoy6, .int xoy7, .int xoy8, .int xoy9]))], [(xy, .inr (4, [.int x_1.1, .int x_1.2.1, .int x_1.2.2.1, .int x_1.2.2.2.1, .int x_1.2.2.2.2.1, .int x_1.2.2.2.2.2.1, .int x_1.2.2.2.2.2.2.1, .int x_1.2.2.2.2.2.2.2.1, .int x_1.2.2.2.2.2.2.2.2.1, .int x_1.2.2.2.2.2.2.2.2.2.1]))], [(xt, .inr (4, [.int x_1.2.2.2.2.2.2.2.2.2.2.1, .int x_1.2.2.2.2.2.2.2.2.2.2.2.1, .int x_1.2.2.2.2.2.2.2.2.2.2.2.2.1, .int x_1.2.2.2.2.2.2.2.2.2.2.2.2.2.1, .int x_1.2.2.2.2.2.2.2.2.2.2.2.2.2.2.1, .int x_1.2.2.2.2.2.2.2.2.2.2.2.2.2.2.2.1, .int x_1.2.2.2.2.2.2.2.2.2.2.2.2.2.2.2.2.1, .int x_1.2.2.2.2.2.2.2.2.2.2.2.2.2.2.2.2.2.1, .int x_1.2.2.2.2.2.2.2.2.2.2.2.2.2.2.2.2.2.2.1, .int x_1.2.2.2.2.2.2.2.2.2.2.2.2.2.2.2.2.2.2.2]))]] rfl (by decide +kernel) rfl ?_
  refine xr_aload_n (n := 5) (j := 0) C dd_X6_isSound_0.2.2.1 rfl rfl ?_
  obtain ⟨x_5, hx_5, hR⟩ := yf_b hR
  refine xr_callV (n := 8) (As := []) (rest := []) C (kX6_isAllSound l D cy (x := x) (xj := xj) (xw := xw) (xz := xz) (xo := xo) (xy := xy) (xt := xt) (xwu := xwu) (xwm := xwm) (xwb := xwb) (xwk := xwk) (xwun := xwun) (xwuf := xwuf) (xoj := xoj) (xoy := xoy) (xosk := xosk) (xoti := xoti) (xofr := xofr) (xofc := xofc) (xobt := xobt) (xobl := xobl) (xobe := xobe) (xose := xose) (xotk := xotk) (xoy0 := xoy0) (xoy1 := xoy1) (xoy2 := xoy2) (xoy3 := xoy3) (xoy4 := xoy4) (xoy5 := xoy5) (xoy6 := xoy6) (xoy7 := xoy7) (xoy8 := xoy8) (xoy9 := xoy9) (xy0 := x_1.1) (xy1 := x_1.2.1) (xy2 := x_1.2.2.1) (xy3 := x_1.2.2.2.1) (xy4 := x_1.2.2.2.2.1) (xy5 := x_1.2.2.2.2.2.1) (xy6 := x_1.2.2.2.2.2.2.1) (xy7 := x_1.2.2.2.2.2.2.2.1) (xy8 := x_1.2.2.2.2.2.2.2.2.1) (xy9 := x_1.2.2.2.2.2.2.2.2.2.1) (xt0 := x_1.2.2.2.2.2.2.2.2.2.2.1) (xt1 := x_1.2.2.2.2.2.2.2.2.2.2.2.1) (xt2 := x_1.2.2.2.2.2.2.2.2.2.2.2.2.1) (xt3 := x_1.2.2.2.2.2.2.2.2.2.2.2.2.2.1) (xt4 := x_1.2.2.2.2.2.2.2.2.2.2.2.2.2.2.1) (xt5 := x_1.2.2.2.2.2.2.2.2.2.2.2.2.2.2.2.1) (xt6 := x_1.2.2.2.2.2.2.2.2.2.2.2.2.2.2.2.2.1) (xt7 := x_1.2.2.2.2.2.2.2.2.2.2.2.2.2.2.2.2.2.1) (xt8 := x_1.2.2.2.2.2.2.2.2.2.2.2.2.2.2.2.2.2.2.1) (xt9 := x_1.2.2.2.2.2.2.2.2.2.2.2.2.2.2.2.2.2.2.2) hx_5) mX6_isAllSound u_395 u_397 u_6 0 rfl rfl 13 [0, 6, 7, 8, 9, 10, 11, 12] [1, 2, 3, 4, 5] rfl (by decide +kernel) rfl rfl rfl rfl (Nat.le_of_ble_eq_true rfl) (Nat.le_of_ble_eq_true rfl) (Nat.le_of_ble_eq_true rfl) (Nat.le_of_ble_eq_true rfl) (Nat.le_of_ble_eq_true rfl) dd_X6_isSound_0.2.2.2.1 rfl (fun v_6 u_7 hp_8 => ?_)
  obtain ⟨rfl, rfl⟩ := hp_8
  refine xr_perm C 13 [0, 8, 9, 10, 11, 12, 1, 2, 3, 4, 5, 6, 7] [] [[(x, .inr (8, [.ref xj, .ref xw, .ref xz, .ref xo, .ref xy, .ref xt]))], [(xj, .inr (3, [.ref xja, .ref xjb, .int xjr, .int xjk, .int xjc, .int xjg, .int xjs]))], [(xja, .inr (6, [.ref xjan]))], [(xjan, .inl (cy 1, 81, .inl xjaf))], [(xjb, .inr (6, [.ref xjbn]))], [(xjbn, .inl (cy 1, 81, .inl xjbf))], [(xw, .inr (2, [.ref xwu, .ref xwm, .int xwb, .int xwk]))], [(xwu, .inr (6, [.ref xwun]))], [(xwun, .inl (cy 1, 81, .inl xwuf))], [(xo, .inr (7, [.ref xoj, .ref xoy, .int xosk, .int xoti, .int xofr, .int xofc, .int xobt, .int xobl, .int xobe, .int xose, .int xotk]))], [(xoy, .inr (4, [.int xoy0, .int xoy1, .int xoy2, .int xoy3, .int xoy4, .int xoy5, .int xoy6, .int xoy7, .int xoy8, .int xoy9]))], [(xy, .inr (4, [.int x_1.1, .int x_1.2.1, .int x_1.2.2.1, .int x_1.2.2.2.1, .int x_1.2.2.2.2.1, .int x_1.2.2.2.2.2.1, .int x_1.2.2.2.2.2.2.1, .int x_1.2.2.2.2.2.2.2.1, .int x_1.2.2.2.2.2.2.2.2.1, .int x_1.2.2.2.2.2.2.2.2.2.1]))], [(xt, .inr (4, [.int x_1.2.2.2.2.2.2.2.2.2.2.1, .int x_1.2.2.2.2.2.2.2.2.2.2.2.1, .int x_1.2.2.2.2.2.2.2.2.2.2.2.2.1, .int x_5.2.1, .int x_5.2.2.1, .int x_5.2.2.2.1, .int x_5.2.2.2.2.1, .int x_5.2.2.2.2.2.1, .int x_5.2.2.2.2.2.2.1, .int x_5.2.2.2.2.2.2.2]))]] rfl (by decide +kernel) rfl ?_
  refine xr_st (st' := [.int x_5.1]) rfl ?_
  obtain ⟨g_9, hR⟩ := yf_g hR
  obtain rfl := Option.some.inj hR
  exact ret x_5.1 (ynz_n g_9) ⟨rfl, rfl⟩ (Nat.le_of_ble_eq_true rfl) (Nat.le_of_ble_eq_true rfl) dd_X6_isSound_0.2.2.2.2.1
theorem dd_X6_mix_0 : dk_R cX6_mix [(0, .lload_n 0, 1), (1, .ldc2_w 356, 3), (4, .lmul, 1), (5, .iload_n 2, 1), (6, .i2l, 1), (7, .ladd, 1), (8, .lreturn, 1)] := dk_use _ _ (by decide +kernel)
def fX6_mix (i1 : Int64) (i2 : Int32) : Option (Int64) := some ((i1 * 31) + i2.toInt64)
abbrev hX6_mix : Cond := .code yX6_mix cX6_mix 3 (some .long)
theorem mX6_mix : yM yX6_mix hX6_mix 2 := ⟨u_471, u_57, by decide +kernel, by decide +kernel, by decide +kernel⟩
set_option maxHeartbeats 4000000 in
set_option maxRecDepth 100000 in
theorem kX6_mix (l : Launch) (D : va_G) (cy : Nat → ClassId) (i1 : Int64) (i2 : Int32) {res : Int64} (hR : fX6_mix i1 i2 = some res) : YM l D cy yX6_mix hX6_mix 1 0 0 [.long i1, .int i2] [] (fun v u => v = some (.long res) ∧ u = []) := by
  unfold fX6_mix at hR
  refine YM.ofL (cc := cX6_mix) (maxL := 3) (ret := (some .long)) (by decide +kernel) rfl (Nat.le_of_ble_eq_true rfl) [(0, .long i1), (2, .int i2)] rfl rfl (fun p e s m args below meth c A H0 Q C hnm ret => ?_)
  refine xr_lload_n (n := 1) (j := 0) C dd_X6_mix_0.1 rfl rfl ?_
  refine xr_ldc2 (n := 4) (v := 31) C u_472 dd_X6_mix_0.2.1 rfl ?_
  refine xr_lmul (n := 5) C dd_X6_mix_0.2.2.1 rfl ?_
  refine xr_iload_n (n := 6) (j := 1) C dd_X6_mix_0.2.2.2.1 rfl rfl ?_
  refine xr_i2l (n := 7) C dd_X6_mix_0.2.2.2.2.1 rfl ?_
  refine xr_ladd (n := 8) C dd_X6_mix_0.2.2.2.2.2.1 rfl ?_
  obtain rfl := Option.some.inj hR
  exact ret ((i1 * 31) + i2.toInt64) ⟨rfl, rfl⟩ (Nat.le_of_ble_eq_true rfl) (Nat.le_of_ble_eq_true rfl) dd_X6_mix_0.2.2.2.2.2.2.1
theorem dd_X6_mixCells_0 : dk_R cX6_mixCells [(0, .lload_n 1, 1), (1, .lstore_n 3, 1), (2, .iconst 0, 1), (3, .istore 5, 2), (5, .iload 5, 2), (7, .iconst 5, 1), (8, .if_icmp .ge 54, 3), (11, .iconst 0, 1), (12, .istore 6, 2), (14, .iload 6, 2), (16, .iconst 5, 1), (17, .if_icmp .ge 39, 3), (20, .iconst 0, 1), (21, .istore 7, 2), (23, .iload 7, 2), (25, .iconst 3, 1)] := dk_use _ _ (by decide +kernel)
theorem dd_X6_mixCells_1 : dk_R cX6_mixCells [(26, .if_icmp .gt 24, 3), (29, .lload_n 3, 1), (30, .aload_n 0, 1), (31, .iload 5, 2), (33, .iload 6, 2), (35, .iload 7, 2), (37, .invokevirtual 197, 3), (40, .invokestatic 251, 3), (43, .lstore_n 3, 1), (44, .iinc 7 1, 3), (47, .goto (-24), 3), (50, .iinc 6 1, 3), (53, .goto (-39), 3), (56, .iinc 5 1, 3), (59, .goto (-54), 3), (62, .lload_n 3, 1)] := dk_use _ _ (by decide +kernel)
theorem dd_X6_mixCells_2 : dk_R cX6_mixCells [(63, .lreturn, 1)] := dk_use _ _ (by decide +kernel)
def fX6_mixCells (xwb : Int32) (xwk : Int32) (xwuf : Nat → Int32) (xwmf : Nat → Int32) (xofr : Int32) (xofc : Int32) (xobt : Int32) (xobl : Int32) (xoy0 : Int32) (xoy1 : Int32) (xoy2 : Int32) (xoy3 : Int32) (xoy4 : Int32) (xoy5 : Int32) (xoy6 : Int32) (i1 : Int64) : Option (Int64) := ((wl (S := Int64 × Int32) (B := Int64 × Int32) (fun s_1 => (if 5 ≤ s_1.2 then some (.inr (s_1.1, s_1.2)) else ((wl (S := Int64 × Int32) (B := Int64 × Int32) (fun s_4 => (if 5 ≤ s_4.2 then some (.inr (s_4.1, s_4.2)) else ((wl (S := Int64 × Int32) (B := Int64 × Int32) (fun s_7 => (if 3 < s_7.2 then some (.inr (s_7.1, s_7.2)) else ((fX6_cellNumber xwb xwk xwuf xwmf xofr xofc xobt xobl xoy0 xoy1 xoy2 xoy3 xoy4 xoy5 xoy6 s_1.2 s_4.2 s_7.2).bind fun x_10 => ((fX6_mix s_7.1 x_10).bind fun x_14 => some (.inl (x_14, s_7.2 + 1)))))) yFuel (s_4.1, 0)).bind fun b_7 => some (.inl (b_7.1, s_4.2 + 1))))) yFuel (s_1.1, 0)).bind fun b_4 => some (.inl (b_4.1, s_1.2 + 1))))) yFuel (i1, 0)).bind fun b_1 => some b_1.1)
abbrev hX6_mixCells : Cond := .code yX6_mixCells cX6_mixCells 8 (some .long)
theorem mX6_mixCells : yM yX6_mixCells hX6_mixCells 1 := ⟨u_476, u_57, by decide +kernel, by decide +kernel, by decide +kernel⟩
set_option maxHeartbeats 4000000 in
set_option maxRecDepth 100000 in
theorem kX6_mixCells (l : Launch) (D : va_G) (cy : Nat → ClassId) (x : Nat) (xj : Nat) (xw : Nat) (xz : Nat) (xo : Nat) (xy : Nat) (xt : Nat) (xwu : Nat) (xwm : Nat) (xwb : Int32) (xwk : Int32) (xwun : Nat) (xwuf : Nat → Int32) (xwmn : Nat) (xwmf : Nat → Int32) (xoj : Nat) (xoy : Nat) (xosk : Int32) (xoti : Int32) (xofr : Int32) (xofc : Int32) (xobt : Int32) (xobl : Int32) (xobe : Int32) (xose : Int32) (xotk : Int32) (xoy0 : Int32) (xoy1 : Int32) (xoy2 : Int32) (xoy3 : Int32) (xoy4 : Int32) (xoy5 : Int32) (xoy6 : Int32) (xoy7 : Int32) (xoy8 : Int32) (xoy9 : Int32) (i1 : Int64) {res : Int64} (hR : fX6_mixCells xwb xwk xwuf xwmf xofr xofc xobt xobl xoy0 xoy1 xoy2 xoy3 xoy4 xoy5 xoy6 i1 = some res) : YM l D cy yX6_mixCells hX6_mixCells 6 0 0 [.ref x, .long i1] [[(x, .inr (8, [.ref xj, .ref xw, .ref xz, .ref xo, .ref xy, .ref xt]))], [(xw, .inr (2, [.ref xwu, .ref xwm, .int xwb, .int xwk]))], [(xwu, .inr (6, [.ref xwun]))], [(xwun, .inl (cy 1, 81, .inl xwuf))], [(xwm, .inr (6, [.ref xwmn]))], [(xwmn, .inl (cy 1, 81, .inl xwmf))], [(xo, .inr (7, [.ref xoj, .ref xoy, .int xosk, .int xoti, .int xofr, .int xofc, .int xobt, .int xobl, .int xobe, .int xose, .int xotk]))], [(xoy, .inr (4, [.int xoy0, .int xoy1, .int xoy2, .int xoy3, .int xoy4, .int xoy5, .int xoy6, .int xoy7, .int xoy8, .int xoy9]))]] (fun v u => v = some (.long res) ∧ u = [[(x, .inr (8, [.ref xj, .ref xw, .ref xz, .ref xo, .ref xy, .ref xt]))], [(xw, .inr (2, [.ref xwu, .ref xwm, .int xwb, .int xwk]))], [(xwu, .inr (6, [.ref xwun]))], [(xwun, .inl (cy 1, 81, .inl xwuf))], [(xwm, .inr (6, [.ref xwmn]))], [(xwmn, .inl (cy 1, 81, .inl xwmf))], [(xo, .inr (7, [.ref xoj, .ref xoy, .int xosk, .int xoti, .int xofr, .int xofc, .int xobt, .int xobl, .int xobe, .int xose, .int xotk]))], [(xoy, .inr (4, [.int xoy0, .int xoy1, .int xoy2, .int xoy3, .int xoy4, .int xoy5, .int xoy6, .int xoy7, .int xoy8, .int xoy9]))]]) := by
  unfold fX6_mixCells at hR
  refine YM.ofL (cc := cX6_mixCells) (maxL := 8) (ret := (some .long)) (by decide +kernel) rfl (Nat.le_of_ble_eq_true rfl) [(0, .ref x), (1, .long i1)] rfl rfl (fun p e s m args below meth c A H0 Q C hnm ret => ?_)
  refine xr_lload_n (n := 1) (j := 1) C dd_X6_mixCells_0.1 rfl rfl ?_
  refine xr_lstore_n (n := 2) C [(3, .long i1), (0, .ref x), (1, .long i1)] dd_X6_mixCells_0.2.1 (by decide) rfl rfl ?_
  refine xr_iconst (n := 3) (v := 0) C dd_X6_mixCells_0.2.2.1 rfl rfl ?_
  refine xr_istore (n := 5) C [(5, .int 0), (3, .long i1), (0, .ref x), (1, .long i1)] dd_X6_mixCells_0.2.2.2.1 (by decide) rfl rfl ?_
  refine xr_lv (lv' := [(0, .ref x), (3, .long i1), (5, .int 0)]) [2, 1, 0] rfl ?_
  obtain ⟨b_1, hb_1, hR⟩ := yf_b hR
  have K_1 : X p l e (yR 6 0 0) s m args below meth c D A H0 8 Q [[(x, .inr (8, [.ref xj, .ref xw, .ref xz, .ref xo, .ref xy, .ref xt]))], [(xw, .inr (2, [.ref xwu, .ref xwm, .int xwb, .int xwk]))], [(xwu, .inr (6, [.ref xwun]))], [(xwun, .inl (cy 1, 81, .inl xwuf))], [(xwm, .inr (6, [.ref xwmn]))], [(xwmn, .inl (cy 1, 81, .inl xwmf))], [(xo, .inr (7, [.ref xoj, .ref xoy, .int xosk, .int xoti, .int xofr, .int xofc, .int xobt, .int xobl, .int xobe, .int xose, .int xotk]))], [(xoy, .inr (4, [.int xoy0, .int xoy1, .int xoy2, .int xoy3, .int xoy4, .int xoy5, .int xoy6, .int xoy7, .int xoy8, .int xoy9]))]] 0 0 [(3, .long b_1.1)] 62 [] := by
    refine xr_lload_n (n := 63) (j := 0) C dd_X6_mixCells_1.2.2.2.2.2.2.2.2.2.2.2.2.2.2.2.1 rfl rfl ?_
    obtain rfl := Option.some.inj hR
    exact ret b_1.1 ⟨rfl, rfl⟩ (Nat.le_of_ble_eq_true rfl) (Nat.le_of_ble_eq_true rfl) dd_X6_mixCells_2.1
  refine y_loop (P := fun (s_1 : Int64 × Int32) => X p l e (yR 6 0 0) s m args below meth c D A H0 8 Q [[(x, .inr (8, [.ref xj, .ref xw, .ref xz, .ref xo, .ref xy, .ref xt]))], [(xw, .inr (2, [.ref xwu, .ref xwm, .int xwb, .int xwk]))], [(xwu, .inr (6, [.ref xwun]))], [(xwun, .inl (cy 1, 81, .inl xwuf))], [(xwm, .inr (6, [.ref xwmn]))], [(xwmn, .inl (cy 1, 81, .inl xwmf))], [(xo, .inr (7, [.ref xoj, .ref xoy, .int xosk, .int xoti, .int xofr, .int xofc, .int xobt, .int xobl, .int xobe, .int xose, .int xotk]))], [(xoy, .inr (4, [.int xoy0, .int xoy1, .int xoy2, .int xoy3, .int xoy4, .int xoy5, .int xoy6, .int xoy7, .int xoy8, .int xoy9]))]] 0 0 [(0, .ref x), (3, .long s_1.1), (5, .int s_1.2)] 5 []) ?_ _ (i1, 0) hb_1
  intro s_1 o_1 ho_1 hk_1 hx_1
  refine xr_iload (n := 7) (j := 2) C dd_X6_mixCells_0.2.2.2.2.1 rfl rfl ?_
  refine xr_iconst (n := 8) (v := 5) C dd_X6_mixCells_0.2.2.2.2.2.1 rfl rfl ?_
  refine xr_icmp_ge (tgt := 62) (n := 11) C dd_X6_mixCells_0.2.2.2.2.2.2.1 rfl rfl (fun c_2 => ?_) (fun c_2 => ?_)
  · replace ho_1 := yf_t c_2 ho_1
    refine xr_lv (lv' := [(3, .long s_1.1)]) [1] rfl ?_
    have e_3 := hx_1 _ (Option.some.inj ho_1).symm
    subst e_3
    exact K_1
  · replace ho_1 := yf_f c_2 ho_1
    refine xr_iconst (n := 12) (v := 0) C dd_X6_mixCells_0.2.2.2.2.2.2.2.1 rfl rfl ?_
    refine xr_istore (n := 14) C [(6, .int 0), (0, .ref x), (3, .long s_1.1), (5, .int s_1.2)] dd_X6_mixCells_0.2.2.2.2.2.2.2.2.1 (by decide) rfl rfl ?_
    refine xr_lv (lv' := [(0, .ref x), (3, .long s_1.1), (5, .int s_1.2), (6, .int 0)]) [1, 2, 3, 0] rfl ?_
    obtain ⟨b_4, hb_4, ho_1⟩ := yf_b ho_1
    have K_4 : X p l e (yR 6 0 0) s m args below meth c D A H0 8 Q [[(x, .inr (8, [.ref xj, .ref xw, .ref xz, .ref xo, .ref xy, .ref xt]))], [(xw, .inr (2, [.ref xwu, .ref xwm, .int xwb, .int xwk]))], [(xwu, .inr (6, [.ref xwun]))], [(xwun, .inl (cy 1, 81, .inl xwuf))], [(xwm, .inr (6, [.ref xwmn]))], [(xwmn, .inl (cy 1, 81, .inl xwmf))], [(xo, .inr (7, [.ref xoj, .ref xoy, .int xosk, .int xoti, .int xofr, .int xofc, .int xobt, .int xobl, .int xobe, .int xose, .int xotk]))], [(xoy, .inr (4, [.int xoy0, .int xoy1, .int xoy2, .int xoy3, .int xoy4, .int xoy5, .int xoy6, .int xoy7, .int xoy8, .int xoy9]))]] 0 0 [(0, .ref x), (3, .long b_4.1), (5, .int s_1.2)] 56 [] := by
      refine xr_iinc (j := 2) (v := s_1.2 + 1) (n := 59) C [(5, .int (s_1.2 + 1)), (0, .ref x), (3, .long b_4.1)] dd_X6_mixCells_1.2.2.2.2.2.2.2.2.2.2.2.2.2.1 rfl rfl (by decide) rfl rfl ?_
      refine xr_goto (tgt := 5) C dd_X6_mixCells_1.2.2.2.2.2.2.2.2.2.2.2.2.2.2.1 rfl ?_
      refine xr_lv (lv' := [(0, .ref x), (3, .long b_4.1), (5, .int (s_1.2 + 1))]) [1, 2, 0] rfl ?_
      exact hk_1 (b_4.1, s_1.2 + 1) (Option.some.inj ho_1).symm
    refine y_loop (P := fun (s_4 : Int64 × Int32) => X p l e (yR 6 0 0) s m args below meth c D A H0 8 Q [[(x, .inr (8, [.ref xj, .ref xw, .ref xz, .ref xo, .ref xy, .ref xt]))], [(xw, .inr (2, [.ref xwu, .ref xwm, .int xwb, .int xwk]))], [(xwu, .inr (6, [.ref xwun]))], [(xwun, .inl (cy 1, 81, .inl xwuf))], [(xwm, .inr (6, [.ref xwmn]))], [(xwmn, .inl (cy 1, 81, .inl xwmf))], [(xo, .inr (7, [.ref xoj, .ref xoy, .int xosk, .int xoti, .int xofr, .int xofc, .int xobt, .int xobl, .int xobe, .int xose, .int xotk]))], [(xoy, .inr (4, [.int xoy0, .int xoy1, .int xoy2, .int xoy3, .int xoy4, .int xoy5, .int xoy6, .int xoy7, .int xoy8, .int xoy9]))]] 0 0 [(0, .ref x), (3, .long s_4.1), (5, .int s_1.2), (6, .int s_4.2)] 14 []) ?_ _ (s_1.1, 0) hb_4
    intro s_4 o_4 ho_4 hk_4 hx_4
    refine xr_iload (n := 16) (j := 3) C dd_X6_mixCells_0.2.2.2.2.2.2.2.2.2.1 rfl rfl ?_
    refine xr_iconst (n := 17) (v := 5) C dd_X6_mixCells_0.2.2.2.2.2.2.2.2.2.2.1 rfl rfl ?_
    refine xr_icmp_ge (tgt := 56) (n := 20) C dd_X6_mixCells_0.2.2.2.2.2.2.2.2.2.2.2.1 rfl rfl (fun c_5 => ?_) (fun c_5 => ?_)
    · replace ho_4 := yf_t c_5 ho_4
      refine xr_lv (lv' := [(0, .ref x), (3, .long s_4.1), (5, .int s_1.2)]) [0, 1, 2] rfl ?_
      have e_6 := hx_4 _ (Option.some.inj ho_4).symm
      subst e_6
      exact K_4
    · replace ho_4 := yf_f c_5 ho_4
      refine xr_iconst (n := 21) (v := 0) C dd_X6_mixCells_0.2.2.2.2.2.2.2.2.2.2.2.2.1 rfl rfl ?_
      refine xr_istore (n := 23) C [(7, .int 0), (0, .ref x), (3, .long s_4.1), (5, .int s_1.2), (6, .int s_4.2)] dd_X6_mixCells_0.2.2.2.2.2.2.2.2.2.2.2.2.2.1 (by decide) rfl rfl ?_
      refine xr_lv (lv' := [(0, .ref x), (3, .long s_4.1), (5, .int s_1.2), (6, .int s_4.2), (7, .int 0)]) [1, 2, 3, 4, 0] rfl ?_
      obtain ⟨b_7, hb_7, ho_4⟩ := yf_b ho_4
      have K_7 : X p l e (yR 6 0 0) s m args below meth c D A H0 8 Q [[(x, .inr (8, [.ref xj, .ref xw, .ref xz, .ref xo, .ref xy, .ref xt]))], [(xw, .inr (2, [.ref xwu, .ref xwm, .int xwb, .int xwk]))], [(xwu, .inr (6, [.ref xwun]))], [(xwun, .inl (cy 1, 81, .inl xwuf))], [(xwm, .inr (6, [.ref xwmn]))], [(xwmn, .inl (cy 1, 81, .inl xwmf))], [(xo, .inr (7, [.ref xoj, .ref xoy, .int xosk, .int xoti, .int xofr, .int xofc, .int xobt, .int xobl, .int xobe, .int xose, .int xotk]))], [(xoy, .inr (4, [.int xoy0, .int xoy1, .int xoy2, .int xoy3, .int xoy4, .int xoy5, .int xoy6, .int xoy7, .int xoy8, .int xoy9]))]] 0 0 [(0, .ref x), (3, .long b_7.1), (5, .int s_1.2), (6, .int s_4.2)] 50 [] := by
        refine xr_iinc (j := 3) (v := s_4.2 + 1) (n := 53) C [(6, .int (s_4.2 + 1)), (0, .ref x), (3, .long b_7.1), (5, .int s_1.2)] dd_X6_mixCells_1.2.2.2.2.2.2.2.2.2.2.2.1 rfl rfl (by decide) rfl rfl ?_
        refine xr_goto (tgt := 14) C dd_X6_mixCells_1.2.2.2.2.2.2.2.2.2.2.2.2.1 rfl ?_
        refine xr_lv (lv' := [(0, .ref x), (3, .long b_7.1), (5, .int s_1.2), (6, .int (s_4.2 + 1))]) [1, 2, 3, 0] rfl ?_
        exact hk_4 (b_7.1, s_4.2 + 1) (Option.some.inj ho_4).symm
      refine y_loop (P := fun (s_7 : Int64 × Int32) => X p l e (yR 6 0 0) s m args below meth c D A H0 8 Q [[(x, .inr (8, [.ref xj, .ref xw, .ref xz, .ref xo, .ref xy, .ref xt]))], [(xw, .inr (2, [.ref xwu, .ref xwm, .int xwb, .int xwk]))], [(xwu, .inr (6, [.ref xwun]))], [(xwun, .inl (cy 1, 81, .inl xwuf))], [(xwm, .inr (6, [.ref xwmn]))], [(xwmn, .inl (cy 1, 81, .inl xwmf))], [(xo, .inr (7, [.ref xoj, .ref xoy, .int xosk, .int xoti, .int xofr, .int xofc, .int xobt, .int xobl, .int xobe, .int xose, .int xotk]))], [(xoy, .inr (4, [.int xoy0, .int xoy1, .int xoy2, .int xoy3, .int xoy4, .int xoy5, .int xoy6, .int xoy7, .int xoy8, .int xoy9]))]] 0 0 [(0, .ref x), (3, .long s_7.1), (5, .int s_1.2), (6, .int s_4.2), (7, .int s_7.2)] 23 []) ?_ _ (s_4.1, 0) hb_7
      intro s_7 o_7 ho_7 hk_7 hx_7
      refine xr_iload (n := 25) (j := 4) C dd_X6_mixCells_0.2.2.2.2.2.2.2.2.2.2.2.2.2.2.1 rfl rfl ?_
      refine xr_iconst (n := 26) (v := 3) C dd_X6_mixCells_0.2.2.2.2.2.2.2.2.2.2.2.2.2.2.2.1 rfl rfl ?_
      refine xr_icmp_gt (tgt := 50) (n := 29) C dd_X6_mixCells_1.1 rfl rfl (fun c_8 => ?_) (fun c_8 => ?_)
      · replace ho_7 := yf_t c_8 ho_7
        refine xr_lv (lv' := [(0, .ref x), (3, .long s_7.1), (5, .int s_1.2), (6, .int s_4.2)]) [0, 1, 2, 3] rfl ?_
        have e_9 := hx_7 _ (Option.some.inj ho_7).symm
        subst e_9
        exact K_7
      · replace ho_7 := yf_f c_8 ho_7
        refine xr_lload_n (n := 30) (j := 1) C dd_X6_mixCells_1.2.1 rfl rfl ?_
        refine xr_aload_n (n := 31) (j := 0) C dd_X6_mixCells_1.2.2.1 rfl rfl ?_
        refine xr_iload (n := 33) (j := 2) C dd_X6_mixCells_1.2.2.2.1 rfl rfl ?_
        refine xr_iload (n := 35) (j := 3) C dd_X6_mixCells_1.2.2.2.2.1 rfl rfl ?_
        refine xr_iload (n := 37) (j := 4) C dd_X6_mixCells_1.2.2.2.2.2.1 rfl rfl ?_
        obtain ⟨x_10, hx_10, ho_7⟩ := yf_b ho_7
        refine xr_callVp (n := 40) (As := [.int s_1.2, .int s_4.2, .int s_7.2]) (rest := [.long s_7.1]) C (kX6_cellNumber l D cy (x := x) (xj := xj) (xw := xw) (xz := xz) (xo := xo) (xy := xy) (xt := xt) (xwu := xwu) (xwm := xwm) (xwb := xwb) (xwk := xwk) (xwun := xwun) (xwuf := xwuf) (xwmn := xwmn) (xwmf := xwmf) (xoj := xoj) (xoy := xoy) (xosk := xosk) (xoti := xoti) (xofr := xofr) (xofc := xofc) (xobt := xobt) (xobl := xobl) (xobe := xobe) (xose := xose) (xotk := xotk) (xoy0 := xoy0) (xoy1 := xoy1) (xoy2 := xoy2) (xoy3 := xoy3) (xoy4 := xoy4) (xoy5 := xoy5) (xoy6 := xoy6) (xoy7 := xoy7) (xoy8 := xoy8) (xoy9 := xoy9) (i1 := s_1.2) (i2 := s_4.2) (i3 := s_7.2) hx_10) mX6_cellNumber u_477 u_479 u_15 0 rfl rfl 8 [0, 1, 2, 3, 4, 5, 6, 7] [] rfl (by decide +kernel) rfl rfl rfl rfl (Nat.le_of_ble_eq_true rfl) (Nat.le_of_ble_eq_true rfl) (Nat.le_of_ble_eq_true rfl) (Nat.le_of_ble_eq_true rfl) (Nat.le_of_ble_eq_true rfl) dd_X6_mixCells_1.2.2.2.2.2.2.1 rfl (fun _ _ hp => hp.2) (fun v_11 hp_13 => ?_)
        obtain ⟨rfl, -⟩ := hp_13
        refine xr_st (st' := [.int x_10, .long s_7.1]) rfl ?_
        obtain ⟨x_14, hx_14, ho_7⟩ := yf_b ho_7
        refine xr_callSp (n := 43) (As := [.long s_7.1, .int x_10]) (rest := []) C (kX6_mix l D cy (i1 := s_7.1) (i2 := x_10) hx_14) mX6_mix u_469 u_470 8 [] [0, 1, 2, 3, 4, 5, 6, 7] rfl (by decide +kernel) rfl rfl rfl rfl (Nat.le_of_ble_eq_true rfl) (Nat.le_of_ble_eq_true rfl) (Nat.le_of_ble_eq_true rfl) (Nat.le_of_ble_eq_true rfl) (Nat.le_of_ble_eq_true rfl) dd_X6_mixCells_1.2.2.2.2.2.2.2.1 rfl (fun _ _ hp => hp.2) (fun v_15 hp_17 => ?_)
        obtain ⟨rfl, -⟩ := hp_17
        refine xr_st (st' := [.long x_14]) rfl ?_
        refine xr_lstore_n (n := 44) C [(3, .long x_14), (0, .ref x), (5, .int s_1.2), (6, .int s_4.2), (7, .int s_7.2)] dd_X6_mixCells_1.2.2.2.2.2.2.2.2.1 (by decide) rfl rfl ?_
        refine xr_iinc (j := 4) (v := s_7.2 + 1) (n := 47) C [(7, .int (s_7.2 + 1)), (3, .long x_14), (0, .ref x), (5, .int s_1.2), (6, .int s_4.2)] dd_X6_mixCells_1.2.2.2.2.2.2.2.2.2.1 rfl rfl (by decide) rfl rfl ?_
        refine xr_goto (tgt := 23) C dd_X6_mixCells_1.2.2.2.2.2.2.2.2.2.2.1 rfl ?_
        refine xr_lv (lv' := [(0, .ref x), (3, .long x_14), (5, .int s_1.2), (6, .int s_4.2), (7, .int (s_7.2 + 1))]) [2, 1, 3, 4, 0] rfl ?_
        exact hk_7 (x_14, s_7.2 + 1) (Option.some.inj ho_7).symm
