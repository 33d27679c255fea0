theorem u_689 : Cond.code yX6_top cX6_top 5 (some .int) ∈ yU := yu_tables_1_3 153 (by decide +kernel) (by decide +kernel)
theorem u_697 : Cond.code yX6_kind cX6_kind 3 (some .int) ∈ yU := yu_tables_1_3 161 (by decide +kernel) (by decide +kernel)
theorem u_706 : Cond.code yX6_checked cX6_checked 3 (some .boolean) ∈ yU := yu_tables_1_3 170 (by decide +kernel) (by decide +kernel)
theorem u_730 : Cond.methodLink RX6 115 yX6_isOnMesh ∈ yU := yu_tables_1_3 194 (by decide +kernel) (by decide +kernel)
theorem u_731 : Cond.static yX6_isOnMesh ∈ yU := yu_tables_1_3 195 (by decide +kernel) (by decide +kernel)
theorem u_290 : Cond.fieldLink RX6 19 "Pulsemesh" "cells" "LPulsemesh$Cells;" ∈ yU := yu_tables_1_1 234 (by decide +kernel) (by decide +kernel)
theorem u_734 : Cond.methodLink RX6 121 yX0_mark ∈ yU := yu_tables_1_3 198 (by decide +kernel) (by decide +kernel)
theorem u_735 : Cond.instanceMethod yX0_mark ∈ yU := yu_tables_1_3 199 (by decide +kernel) (by decide +kernel)
theorem u_736 : Cond.selects RX0 yX0_mark yX0_mark ∈ yU := yu_tables_1_3 200 (by decide +kernel) (by decide +kernel)
theorem u_467 : Cond.methodLink RX6 128 yJ6_bitCount_0f7a4 ∈ yU := yu_tables_1_2 171 (by decide +kernel) (by decide +kernel)
theorem u_729 : Cond.code yX6_broken cX6_broken 4 (some .int) ∈ yU := yu_tables_1_3 193 (by decide +kernel) (by decide +kernel)
theorem u_292 : Cond.fieldLink RX6 33 "Pulsemesh" "work" "LPulsemesh$Work;" ∈ yU := yu_tables_1_1 236 (by decide +kernel) (by decide +kernel)
theorem u_468 : Cond.methodLink RX6 134 yX5_runs ∈ yU := yu_tables_1_2 172 (by decide +kernel) (by decide +kernel)
theorem u_746 : Cond.methodLink RX6 140 yX0_findBroken ∈ yU := yu_tables_1_3 210 (by decide +kernel) (by decide +kernel)
theorem u_747 : Cond.instanceMethod yX0_findBroken ∈ yU := yu_tables_1_3 211 (by decide +kernel) (by decide +kernel)
theorem u_748 : Cond.selects RX0 yX0_findBroken yX0_findBroken ∈ yU := yu_tables_1_3 212 (by decide +kernel) (by decide +kernel)
theorem u_744 : Cond.code yX6_test cX6_test 1 (some .int) ∈ yU := yu_tables_1_3 208 (by decide +kernel) (by decide +kernel)
theorem u_403 : Cond.methodLink RX6 332 yX0_crossKnown ∈ yU := yu_tables_1_2 107 (by decide +kernel) (by decide +kernel)
theorem u_404 : Cond.instanceMethod yX0_crossKnown ∈ yU := yu_tables_1_2 108 (by decide +kernel) (by decide +kernel)
theorem u_405 : Cond.selects RX0 yX0_crossKnown yX0_crossKnown ∈ yU := yu_tables_1_2 109 (by decide +kernel) (by decide +kernel)
theorem u_294 : Cond.fieldLink RX6 44 "Pulsemesh" "tried" "LPulsemesh$Layout;" ∈ yU := yu_tables_1_1 238 (by decide +kernel) (by decide +kernel)
theorem u_354 : Cond.methodLink RX6 318 yX2_lay ∈ yU := yu_tables_1_2 58 (by decide +kernel) (by decide +kernel)
theorem u_411 : Cond.code yX6_beatsOn cX6_beatsOn 3 (some .int) ∈ yU := yu_tables_1_2 115 (by decide +kernel) (by decide +kernel)
theorem u_707 : Cond.classLink RX6 110 "java/lang/IllegalStateException" ∈ yU := yu_tables_1_3 171 (by decide +kernel) (by decide +kernel)
theorem u_72 : Cond.initialized "java/lang/IllegalStateException" ∈ yU := yu_tables_1_1 16 (by decide +kernel) (by decide +kernel)
theorem yt_X6_96 : yT RX6 "java/lang/IndexOutOfBoundsException" "B has no such row or column" 69 96 73 := ⟨by decide +kernel, u_659, u_71, by decide +kernel, ytb_1⟩
theorem yt_X6_101 : yT RX6 "java/lang/IllegalArgumentException" "a kind is 0 to 2" 47 101 51 := ⟨by decide +kernel, u_571, u_70, by decide +kernel, ytb_0⟩
theorem ytb_2 : (∀ w ∈ (vx_atS RX6 114 "java/lang/IllegalStateException" yNames).filter goodWord, w ∈ yU) ∧ (∀ w ∈ (vx_atS RX6 114 "java/lang/IllegalStateException" yNames).filter (fun w => !goodWord w), w ∈ xn_nw) ∧ ∀ w ∈ Cond.classLink RX6 110 "java/lang/IllegalStateException" :: Cond.initialized "java/lang/IllegalStateException" :: vx_atS RX6 114 "java/lang/IllegalStateException" yNames, vx_ot w = true := ⟨yt_good (by decide +kernel), by decide +kernel, by decide +kernel⟩
theorem yt_X6_112 : yT RX6 "java/lang/IllegalStateException" "only sums of products can be checked" 110 112 114 := ⟨by decide +kernel, u_707, u_72, by decide +kernel, ytb_2⟩
theorem yt_X6_119 : yT RX6 "java/lang/IndexOutOfBoundsException" "the mesh has no such cell" 69 119 73 := ⟨by decide +kernel, u_659, u_71, by decide +kernel, ytb_1⟩
theorem yt_X6_138 : yT RX6 "java/lang/IllegalStateException" "a work runs" 110 138 114 := ⟨by decide +kernel, u_707, u_72, by decide +kernel, ytb_2⟩
theorem dd_X6_top_0 : dk_R cX6_top [(0, .iload_n 1, 1), (1, .ifCond .lt 29, 3), (4, .iload_n 1, 1), (5, .aload_n 0, 1), (6, .getfield 10, 3), (9, .getfield 66, 3), (12, .if_icmp .ge 18, 3), (15, .iload_n 2, 1), (16, .ifCond .lt 14, 3), (19, .iload_n 2, 1), (20, .aload_n 0, 1), (21, .getfield 10, 3), (24, .getfield 93, 3), (27, .if_icmp .lt 13, 3), (30, .new 69, 3), (33, .dup, 1)] := dk_use _ _ (by decide +kernel)
theorem dd_X6_top_1 : dk_R cX6_top [(34, .ldc 96, 2), (36, .invokespecial 73, 3), (39, .athrow, 1), (40, .iload_n 3, 1), (41, .invokestatic 74, 3), (44, .ifCond .ne 13, 3), (47, .new 47, 3), (50, .dup, 1), (51, .ldc 78, 2), (53, .invokespecial 51, 3), (56, .athrow, 1), (57, .aload_n 0, 1), (58, .getfield 10, 3), (61, .getfield 98, 3), (64, .iload_n 1, 1), (65, .iload_n 2, 1)] := dk_use _ _ (by decide +kernel)
theorem dd_X6_top_2 : dk_R cX6_top [(66, .invokevirtual 84, 3), (69, .istore 4, 2), (71, .aload_n 0, 1), (72, .getfield 10, 3), (75, .getfield 98, 3), (78, .iload_n 1, 1), (79, .iload_n 2, 1), (80, .iload_n 3, 1), (81, .invokevirtual 90, 3), (84, .iload 4, 2), (86, .ireturn, 1)] := dk_use _ _ (by decide +kernel)
def fX6_top (xjk : Int32) (xjc : Int32) (xjbf : Nat → Int32) (i1 : Int32) (i2 : Int32) (i3 : Int32) : Option (Nat ⊕ (Int32 × (Nat → Int32))) := (if i1 < 0 then some (.inl 1) else (if xjk ≤ i1 then some (.inl 1) else (if i2 < 0 then some (.inl 1) else (if i2 < xjc then ((fX6_isOperand i3).bind fun x_5 => (if x_5 = 0 then some (.inl 0) else ((fX4_get xjbf i1 i2).bind fun x_10 => ((fX4_set xjbf i1 i2 i3).bind fun x_14 => some (.inr (x_10, x_14)))))) else some (.inl 1)))))
abbrev hX6_top : Cond := .code yX6_top cX6_top 5 (some .int)
theorem mX6_top : yM yX6_top hX6_top 3 := ⟨u_689, u_57, by decide +kernel, by decide +kernel, by decide +kernel⟩
set_option maxHeartbeats 4000000 in
set_option maxRecDepth 100000 in
theorem kX6_top (l : Launch) (D : va_G) (cy : Nat → ClassId) (hl0 : l.stackTraces = false) (x : Nat) (xj : Nat) (xw : Nat) (xz : Nat) (xo : Nat) (xy : Nat) (xt : Nat) (xja : Nat) (xjb : Nat) (xjr : Int32) (xjk : Int32) (xjc : Int32) (xjg : Int32) (xjs : Int32) (xjbn : Nat) (xjbf : Nat → Int32) (i1 : Int32) (i2 : Int32) (i3 : Int32) {res : Nat ⊕ (Int32 × (Nat → Int32))} (hR : fX6_top xjk xjc xjbf i1 i2 i3 = some res) : YX l D cy yX6_top hX6_top 6 1 6 [.ref x, .int i1, .int i2, .int i3] [[(x, .inr (8, [.ref xj, .ref xw, .ref xz, .ref xo, .ref xy, .ref xt]))], [(xj, .inr (3, [.ref xja, .ref xjb, .int xjr, .int xjk, .int xjc, .int xjg, .int xjs]))], [(xjb, .inr (6, [.ref xjbn]))], [(xjbn, .inl (cy 1, 81, .inl xjbf))]] (fun v u => ∃ r, res = .inr r ∧ v = some (.int r.1) ∧ u = [[(x, .inr (8, [.ref xj, .ref xw, .ref xz, .ref xo, .ref xy, .ref xt]))], [(xj, .inr (3, [.ref xja, .ref xjb, .int xjr, .int xjk, .int xjc, .int xjg, .int xjs]))], [(xjb, .inr (6, [.ref xjbn]))], [(xjbn, .inl (cy 1, 81, .inl r.2))]]) (fun E u => ∃ r, res = .inl r ∧ E = yE r ∧ u = [[(x, .inr (8, [.ref xj, .ref xw, .ref xz, .ref xo, .ref xy, .ref xt]))], [(xj, .inr (3, [.ref xja, .ref xjb, .int xjr, .int xjk, .int xjc, .int xjg, .int xjs]))], [(xjb, .inr (6, [.ref xjbn]))], [(xjbn, .inl (cy 1, 81, .inl xjbf))]]) := by
  unfold fX6_top at hR
  refine YX.ofI (cc := cX6_top) (maxL := 5) (ret := (some .int)) hl0 (by decide +kernel) rfl (Nat.le_of_ble_eq_true rfl) [(0, .ref x), (1, .int i1), (2, .int i2), (3, .int i3)] rfl rfl (fun p e s m args below meth c A H0 Q C ret thr => ?_)
  refine xr_iload_n (n := 1) (j := 1) C dd_X6_top_0.1 rfl rfl ?_
  refine xr_if_lt (tgt := 30) (n := 4) C dd_X6_top_0.2.1 rfl rfl (fun c_1 => ?_) (fun c_1 => ?_)
  · replace hR := yf_t c_1 hR
    obtain rfl := Option.some.inj hR
    exact thr "java/lang/IndexOutOfBoundsException" "B has no such row or column" 69 96 73 yt_X6_96 ⟨_, rfl, rfl, rfl⟩ (Nat.le_of_ble_eq_true rfl) (Nat.le_of_ble_eq_true rfl) (Nat.le_of_ble_eq_true rfl) (Nat.le_of_ble_eq_true rfl) dd_X6_top_0.2.2.2.2.2.2.2.2.2.2.2.2.2.2.1 dd_X6_top_0.2.2.2.2.2.2.2.2.2.2.2.2.2.2.2.1 dd_X6_top_1.1 dd_X6_top_1.2.1 dd_X6_top_1.2.2.1
  · replace hR := yf_f c_1 hR
    refine xr_iload_n (n := 5) (j := 1) C dd_X6_top_0.2.2.1 rfl rfl ?_
    refine xr_aload_n (n := 6) (j := 0) C dd_X6_top_0.2.2.2.1 rfl rfl ?_
    refine xr_get (n := 9) C 0 rfl rfl 0 (by decide) in_X6 u_289 rfl (v := .ref xj) rfl dd_X6_top_0.2.2.2.2.1 rfl ?_
    refine xr_getN (n := 12) C 1 rfl rfl 3 (by decide) in_X1 RX6 (List.mem_of_getElem? (i := 5) rfl) rfl (v := .int xjk) rfl dd_X6_top_0.2.2.2.2.2.1 rfl ?_
    refine xr_icmp_ge (tgt := 30) (n := 15) C dd_X6_top_0.2.2.2.2.2.2.1 rfl rfl (fun c_2 => ?_) (fun c_2 => ?_)
    · replace hR := yf_t c_2 hR
      obtain rfl := Option.some.inj hR
      exact thr "java/lang/IndexOutOfBoundsException" "B has no such row or column" 69 96 73 yt_X6_96 ⟨_, rfl, rfl, rfl⟩ (Nat.le_of_ble_eq_true rfl) (Nat.le_of_ble_eq_true rfl) (Nat.le_of_ble_eq_true rfl) (Nat.le_of_ble_eq_true rfl) dd_X6_top_0.2.2.2.2.2.2.2.2.2.2.2.2.2.2.1 dd_X6_top_0.2.2.2.2.2.2.2.2.2.2.2.2.2.2.2.1 dd_X6_top_1.1 dd_X6_top_1.2.1 dd_X6_top_1.2.2.1
    · replace hR := yf_f c_2 hR
      refine xr_iload_n (n := 16) (j := 2) C dd_X6_top_0.2.2.2.2.2.2.2.1 rfl rfl ?_
      refine xr_if_lt (tgt := 30) (n := 19) C dd_X6_top_0.2.2.2.2.2.2.2.2.1 rfl rfl (fun c_3 => ?_) (fun c_3 => ?_)
      · replace hR := yf_t c_3 hR
        obtain rfl := Option.some.inj hR
        exact thr "java/lang/IndexOutOfBoundsException" "B has no such row or column" 69 96 73 yt_X6_96 ⟨_, rfl, rfl, rfl⟩ (Nat.le_of_ble_eq_true rfl) (Nat.le_of_ble_eq_true rfl) (Nat.le_of_ble_eq_true rfl) (Nat.le_of_ble_eq_true rfl) dd_X6_top_0.2.2.2.2.2.2.2.2.2.2.2.2.2.2.1 dd_X6_top_0.2.2.2.2.2.2.2.2.2.2.2.2.2.2.2.1 dd_X6_top_1.1 dd_X6_top_1.2.1 dd_X6_top_1.2.2.1
      · replace hR := yf_f c_3 hR
        refine xr_iload_n (n := 20) (j := 2) C dd_X6_top_0.2.2.2.2.2.2.2.2.2.1 rfl rfl ?_
        refine xr_aload_n (n := 21) (j := 0) C dd_X6_top_0.2.2.2.2.2.2.2.2.2.2.1 rfl rfl ?_
        refine xr_get (n := 24) C 0 rfl rfl 0 (by decide) in_X6 u_289 rfl (v := .ref xj) rfl dd_X6_top_0.2.2.2.2.2.2.2.2.2.2.2.1 rfl ?_
        refine xr_getN (n := 27) C 1 rfl rfl 4 (by decide) in_X1 RX6 (List.mem_of_getElem? (i := 6) rfl) rfl (v := .int xjc) rfl dd_X6_top_0.2.2.2.2.2.2.2.2.2.2.2.2.1 rfl ?_
        refine xr_icmp_lt (tgt := 40) (n := 30) C dd_X6_top_0.2.2.2.2.2.2.2.2.2.2.2.2.2.1 rfl rfl (fun c_4 => ?_) (fun c_4 => ?_)
        · replace hR := yf_t c_4 hR
          refine xr_iload_n (n := 41) (j := 3) C dd_X6_top_1.2.2.2.1 rfl rfl ?_
          obtain ⟨x_5, hx_5, hR⟩ := yf_b hR
          refine xr_callSp (n := 44) (As := [.int i3]) (rest := []) C (kX6_isOperand l D cy (i1 := i3) hx_5) mX6_isOperand u_675 u_676 4 [] [0, 1, 2, 3] rfl (by decide +kernel) rfl rfl rfl rfl (Nat.le_of_ble_eq_true rfl) (Nat.le_of_ble_eq_true rfl) (Nat.le_of_ble_eq_true rfl) (Nat.le_of_ble_eq_true rfl) (Nat.le_of_ble_eq_true rfl) dd_X6_top_1.2.2.2.2.1 rfl (fun _ _ hp => hp.2) (fun v_6 hp_8 => ?_)
          obtain ⟨rfl, -⟩ := hp_8
          refine xr_st (st' := [.int x_5]) rfl ?_
          refine xr_if_ne (tgt := 57) (n := 47) C dd_X6_top_1.2.2.2.2.2.1 rfl rfl (fun c_9 => ?_) (fun c_9 => ?_)
          · replace hR := yf_f c_9 hR
            refine xr_aload_n (n := 58) (j := 0) C dd_X6_top_1.2.2.2.2.2.2.2.2.2.2.2.1 rfl rfl ?_
            refine xr_get (n := 61) C 0 rfl rfl 0 (by decide) in_X6 u_289 rfl (v := .ref xj) rfl dd_X6_top_1.2.2.2.2.2.2.2.2.2.2.2.2.1 rfl ?_
            refine xr_getN (n := 64) C 1 rfl rfl 1 (by decide) in_X1 RX6 (List.mem_of_getElem? (i := 3) rfl) rfl (v := .ref xjb) rfl dd_X6_top_1.2.2.2.2.2.2.2.2.2.2.2.2.2.1 rfl ?_
            refine xr_iload_n (n := 65) (j := 1) C dd_X6_top_1.2.2.2.2.2.2.2.2.2.2.2.2.2.2.1 rfl rfl ?_
            refine xr_iload_n (n := 66) (j := 2) C dd_X6_top_1.2.2.2.2.2.2.2.2.2.2.2.2.2.2.2.1 rfl rfl ?_
            obtain ⟨x_10, hx_10, hR⟩ := yf_b hR
            refine xr_callVp (n := 69) (As := [.int i1, .int i2]) (rest := []) C (kX4_get l D cy (h := xjb) (hn := xjbn) (hf := xjbf) (row := i1) (col := i2) hx_10) mX4_get u_492 u_341 u_342 2 rfl rfl 4 [2, 3] [0, 1] rfl (by decide +kernel) rfl rfl rfl rfl (Nat.le_of_ble_eq_true rfl) (Nat.le_of_ble_eq_true rfl) (Nat.le_of_ble_eq_true rfl) (Nat.le_of_ble_eq_true rfl) (Nat.le_of_ble_eq_true rfl) dd_X6_top_2.1 rfl (fun _ _ hp => hp.2) (fun v_11 hp_13 => ?_)
            obtain ⟨rfl, -⟩ := hp_13
            refine xr_st (st' := [.int x_10]) rfl ?_
            refine xr_istore (n := 71) C [(4, .int x_10), (0, .ref x), (1, .int i1), (2, .int i2), (3, .int i3)] dd_X6_top_2.2.1 (by decide) rfl rfl ?_
            refine xr_aload_n (n := 72) (j := 1) C dd_X6_top_2.2.2.1 rfl rfl ?_
            refine xr_get (n := 75) C 0 rfl rfl 0 (by decide) in_X6 u_289 rfl (v := .ref xj) rfl dd_X6_top_2.2.2.2.1 rfl ?_
            refine xr_getN (n := 78) C 1 rfl rfl 1 (by decide) in_X1 RX6 (List.mem_of_getElem? (i := 3) rfl) rfl (v := .ref xjb) rfl dd_X6_top_2.2.2.2.2.1 rfl ?_
            refine xr_iload_n (n := 79) (j := 2) C dd_X6_top_2.2.2.2.2.2.1 rfl rfl ?_
            refine xr_iload_n (n := 80) (j := 3) C dd_X6_top_2.2.2.2.2.2.2.1 rfl rfl ?_
            refine xr_iload_n (n := 81) (j := 4) C dd_X6_top_2.2.2.2.2.2.2.2.1 rfl rfl ?_
            obtain ⟨x_14, hx_14, hR⟩ := yf_b hR
            refine xr_callV (n := 84) (As := [.int i1, .int i2, .int i3]) (rest := []) C (kX4_set l D cy (h := xjb) (hn := xjbn) (hf := xjbf) (row := i1) (col := i2) (num := i3) hx_14) mX4_set u_679 u_680 u_681 2 rfl rfl 4 [2, 3] [0, 1] rfl (by decide +kernel) rfl rfl rfl rfl (Nat.le_of_ble_eq_true rfl) (Nat.le_of_ble_eq_true rfl) (Nat.le_of_ble_eq_true rfl) (Nat.le_of_ble_eq_true rfl) (Nat.le_of_ble_eq_true rfl) dd_X6_top_2.2.2.2.2.2.2.2.2.1 rfl (fun v_15 u_16 hp_17 => ?_)
            obtain ⟨rfl, rfl⟩ := hp_17
            refine xr_perm C 4 [2, 3, 0, 1] [] [[(x, .inr (8, [.ref xj, .ref xw, .ref xz, .ref xo, .ref xy, .ref xt]))], [(xj, .inr (3, [.ref xja, .ref xjb, .int xjr, .int xjk, .int xjc, .int xjg, .int xjs]))], [(xjb, .inr (6, [.ref xjbn]))], [(xjbn, .inl (cy 1, 81, .inl x_14))]] rfl (by decide +kernel) rfl ?_
            refine xr_iload (n := 86) (j := 0) C dd_X6_top_2.2.2.2.2.2.2.2.2.2.1 rfl rfl ?_
            obtain rfl := Option.some.inj hR
            exact ret x_10 ⟨_, rfl, rfl, rfl⟩ (Nat.le_of_ble_eq_true rfl) (Nat.le_of_ble_eq_true rfl) dd_X6_top_2.2.2.2.2.2.2.2.2.2.2.1
          · replace hR := yf_t c_9 hR
            obtain rfl := Option.some.inj hR
            exact thr "java/lang/IllegalArgumentException" "an operand is -9 to 9" 47 78 51 yt_X6_78 ⟨_, rfl, rfl, rfl⟩ (Nat.le_of_ble_eq_true rfl) (Nat.le_of_ble_eq_true rfl) (Nat.le_of_ble_eq_true rfl) (Nat.le_of_ble_eq_true rfl) dd_X6_top_1.2.2.2.2.2.2.1 dd_X6_top_1.2.2.2.2.2.2.2.1 dd_X6_top_1.2.2.2.2.2.2.2.2.1 dd_X6_top_1.2.2.2.2.2.2.2.2.2.1 dd_X6_top_1.2.2.2.2.2.2.2.2.2.2.1
        · replace hR := yf_f c_4 hR
          obtain rfl := Option.some.inj hR
          exact thr "java/lang/IndexOutOfBoundsException" "B has no such row or column" 69 96 73 yt_X6_96 ⟨_, rfl, rfl, rfl⟩ (Nat.le_of_ble_eq_true rfl) (Nat.le_of_ble_eq_true rfl) (Nat.le_of_ble_eq_true rfl) (Nat.le_of_ble_eq_true rfl) dd_X6_top_0.2.2.2.2.2.2.2.2.2.2.2.2.2.2.1 dd_X6_top_0.2.2.2.2.2.2.2.2.2.2.2.2.2.2.2.1 dd_X6_top_1.1 dd_X6_top_1.2.1 dd_X6_top_1.2.2.1
theorem dd_X6_kind_0 : dk_R cX6_kind [(0, .iload_n 1, 1), (1, .ifCond .lt 8, 3), (4, .iload_n 1, 1), (5, .iconst 2, 1), (6, .if_icmp .le 13, 3), (9, .new 47, 3), (12, .dup, 1), (13, .ldc 101, 2), (15, .invokespecial 51, 3), (18, .athrow, 1), (19, .aload_n 0, 1), (20, .getfield 10, 3), (23, .getfield 103, 3), (26, .istore_n 2, 1), (27, .aload_n 0, 1), (28, .getfield 10, 3)] := dk_use _ _ (by decide +kernel)
theorem dd_X6_kind_1 : dk_R cX6_kind [(31, .iload_n 1, 1), (32, .putfield 103, 3), (35, .iload_n 1, 1), (36, .ifCond .eq 11, 3), (39, .aload_n 0, 1), (40, .getfield 10, 3), (43, .iconst 0, 1), (44, .putfield 106, 3), (47, .iload_n 2, 1), (48, .ireturn, 1)] := dk_use _ _ (by decide +kernel)
def fX6_kind (xjg : Int32) (xjs : Int32) (i1 : Int32) : Option (Nat ⊕ (Int32 × Int32 × Int32)) := (if i1 < 0 then some (.inl 0) else (if i1 ≤ 2 then (if i1 = 0 then some (.inr (xjg, i1, xjs)) else some (.inr (xjg, i1, 0))) else some (.inl 0)))
abbrev hX6_kind : Cond := .code yX6_kind cX6_kind 3 (some .int)
theorem mX6_kind : yM yX6_kind hX6_kind 1 := ⟨u_697, u_57, by decide +kernel, by decide +kernel, by decide +kernel⟩
set_option maxHeartbeats 4000000 in
set_option maxRecDepth 100000 in
theorem kX6_kind (l : Launch) (D : va_G) (cy : Nat → ClassId) (hl0 : l.stackTraces = false) (x : Nat) (xj : Nat) (xw : Nat) (xz : Nat) (xo : Nat) (xy : Nat) (xt : Nat) (xja : Nat) (xjb : Nat) (xjr : Int32) (xjk : Int32) (xjc : Int32) (xjg : Int32) (xjs : Int32) (i1 : Int32) {res : Nat ⊕ (Int32 × Int32 × Int32)} (hR : fX6_kind xjg xjs i1 = some res) : YX l D cy yX6_kind hX6_kind 6 1 6 [.ref x, .int i1] [[(x, .inr (8, [.ref xj, .ref xw, .ref xz, .ref xo, .ref xy, .ref xt]))], [(xj, .inr (3, [.ref xja, .ref xjb, .int xjr, .int xjk, .int xjc, .int xjg, .int xjs]))]] (fun v u => ∃ r, res = .inr r ∧ v = some (.int r.1) ∧ u = [[(x, .inr (8, [.ref xj, .ref xw, .ref xz, .ref xo, .ref xy, .ref xt]))], [(xj, .inr (3, [.ref xja, .ref xjb, .int xjr, .int xjk, .int xjc, .int r.2.1, .int r.2.2]))]]) (fun E u => ∃ r, res = .inl r ∧ E = yE r ∧ u = [[(x, .inr (8, [.ref xj, .ref xw, .ref xz, .ref xo, .ref xy, .ref xt]))], [(xj, .inr (3, [.ref xja, .ref xjb, .int xjr, .int xjk, .int xjc, .int xjg, .int xjs]))]]) := by
  unfold fX6_kind at hR
  refine YX.ofI (cc := cX6_kind) (maxL := 3) (ret := (some .int)) hl0 (by decide +kernel) rfl (Nat.le_of_ble_eq_true rfl) [(0, .ref x), (1, .int i1)] rfl rfl (fun p e s m args below meth c A H0 Q C ret thr => ?_)
  refine xr_iload_n (n := 1) (j := 1) C dd_X6_kind_0.1 rfl rfl ?_
  refine xr_if_lt (tgt := 9) (n := 4) C dd_X6_kind_0.2.1 rfl rfl (fun c_1 => ?_) (fun c_1 => ?_)
  · replace hR := yf_t c_1 hR
    obtain rfl := Option.some.inj hR
    exact thr "java/lang/IllegalArgumentException" "a kind is 0 to 2" 47 101 51 yt_X6_101 ⟨_, rfl, rfl, rfl⟩ (Nat.le_of_ble_eq_true rfl) (Nat.le_of_ble_eq_true rfl) (Nat.le_of_ble_eq_true rfl) (Nat.le_of_ble_eq_true rfl) dd_X6_kind_0.2.2.2.2.2.1 dd_X6_kind_0.2.2.2.2.2.2.1 dd_X6_kind_0.2.2.2.2.2.2.2.1 dd_X6_kind_0.2.2.2.2.2.2.2.2.1 dd_X6_kind_0.2.2.2.2.2.2.2.2.2.1
  · replace hR := yf_f c_1 hR
    refine xr_iload_n (n := 5) (j := 1) C dd_X6_kind_0.2.2.1 rfl rfl ?_
    refine xr_iconst (n := 6) (v := 2) C dd_X6_kind_0.2.2.2.1 rfl rfl ?_
    refine xr_icmp_le (tgt := 19) (n := 9) C dd_X6_kind_0.2.2.2.2.1 rfl rfl (fun c_2 => ?_) (fun c_2 => ?_)
    · replace hR := yf_t c_2 hR
      refine xr_aload_n (n := 20) (j := 0) C dd_X6_kind_0.2.2.2.2.2.2.2.2.2.2.1 rfl rfl ?_
      refine xr_get (n := 23) C 0 rfl rfl 0 (by decide) in_X6 u_289 rfl (v := .ref xj) rfl dd_X6_kind_0.2.2.2.2.2.2.2.2.2.2.2.1 rfl ?_
      refine xr_getN (n := 26) C 1 rfl rfl 5 (by decide) in_X1 RX6 (List.mem_of_getElem? (i := 7) rfl) rfl (v := .int xjg) rfl dd_X6_kind_0.2.2.2.2.2.2.2.2.2.2.2.2.1 rfl ?_
      refine xr_istore_n (n := 27) C [(2, .int xjg), (0, .ref x), (1, .int i1)] dd_X6_kind_0.2.2.2.2.2.2.2.2.2.2.2.2.2.1 (by decide) rfl rfl ?_
      refine xr_aload_n (n := 28) (j := 1) C dd_X6_kind_0.2.2.2.2.2.2.2.2.2.2.2.2.2.2.1 rfl rfl ?_
      refine xr_get (n := 31) C 0 rfl rfl 0 (by decide) in_X6 u_289 rfl (v := .ref xj) rfl dd_X6_kind_0.2.2.2.2.2.2.2.2.2.2.2.2.2.2.2.1 rfl ?_
      refine xr_iload_n (n := 32) (j := 2) C dd_X6_kind_1.1 rfl rfl ?_
      refine xr_putN (n := 35) C 1 rfl rfl 5 (by decide) in_X1 tyX1 tyX1_ok nmX1 RX6 (List.mem_of_getElem? (i := 7) rfl) rfl rfl rfl rfl (Nat.le_of_ble_eq_true rfl) [[(x, .inr (8, [.ref xj, .ref xw, .ref xz, .ref xo, .ref xy, .ref xt]))], [(xj, .inr (3, [.ref xja, .ref xjb, .int xjr, .int xjk, .int xjc, .int i1, .int xjs]))]] rfl rfl dd_X6_kind_1.2.1 ?_
      refine xr_iload_n (n := 36) (j := 2) C dd_X6_kind_1.2.2.1 rfl rfl ?_
      refine xr_if_eq (tgt := 47) (n := 39) C dd_X6_kind_1.2.2.2.1 rfl rfl (fun c_3 => ?_) (fun c_3 => ?_)
      · replace hR := yf_t c_3 hR
        refine xr_iload_n (n := 48) (j := 0) C dd_X6_kind_1.2.2.2.2.2.2.2.2.1 rfl rfl ?_
        obtain rfl := Option.some.inj hR
        exact ret xjg ⟨_, rfl, rfl, rfl⟩ (Nat.le_of_ble_eq_true rfl) (Nat.le_of_ble_eq_true rfl) dd_X6_kind_1.2.2.2.2.2.2.2.2.2.1
      · replace hR := yf_f c_3 hR
        refine xr_aload_n (n := 40) (j := 1) C dd_X6_kind_1.2.2.2.2.1 rfl rfl ?_
        refine xr_get (n := 43) C 0 rfl rfl 0 (by decide) in_X6 u_289 rfl (v := .ref xj) rfl dd_X6_kind_1.2.2.2.2.2.1 rfl ?_
        refine xr_iconst (n := 44) (v := 0) C dd_X6_kind_1.2.2.2.2.2.2.1 rfl rfl ?_
        refine xr_putN (n := 47) C 1 rfl rfl 6 (by decide) in_X1 tyX1 tyX1_ok nmX1 RX6 (List.mem_of_getElem? (i := 9) rfl) rfl rfl (by decide) (by decide) (Nat.le_of_ble_eq_true rfl) [[(x, .inr (8, [.ref xj, .ref xw, .ref xz, .ref xo, .ref xy, .ref xt]))], [(xj, .inr (3, [.ref xja, .ref xjb, .int xjr, .int xjk, .int xjc, .int i1, .int 0]))]] rfl rfl dd_X6_kind_1.2.2.2.2.2.2.2.1 ?_
        refine xr_iload_n (n := 48) (j := 0) C dd_X6_kind_1.2.2.2.2.2.2.2.2.1 rfl rfl ?_
        obtain rfl := Option.some.inj hR
        exact ret xjg ⟨_, rfl, rfl, rfl⟩ (Nat.le_of_ble_eq_true rfl) (Nat.le_of_ble_eq_true rfl) dd_X6_kind_1.2.2.2.2.2.2.2.2.2.1
    · replace hR := yf_f c_2 hR
      obtain rfl := Option.some.inj hR
      exact thr "java/lang/IllegalArgumentException" "a kind is 0 to 2" 47 101 51 yt_X6_101 ⟨_, rfl, rfl, rfl⟩ (Nat.le_of_ble_eq_true rfl) (Nat.le_of_ble_eq_true rfl) (Nat.le_of_ble_eq_true rfl) (Nat.le_of_ble_eq_true rfl) dd_X6_kind_0.2.2.2.2.2.1 dd_X6_kind_0.2.2.2.2.2.2.1 dd_X6_kind_0.2.2.2.2.2.2.2.1 dd_X6_kind_0.2.2.2.2.2.2.2.2.1 dd_X6_kind_0.2.2.2.2.2.2.2.2.2.1
theorem dd_X6_checked_0 : dk_R cX6_checked [(0, .iload_n 1, 1), (1, .ifCond .eq 23, 3), (4, .aload_n 0, 1), (5, .getfield 10, 3), (8, .getfield 103, 3), (11, .ifCond .eq 13, 3), (14, .new 110, 3), (17, .dup, 1), (18, .ldc 112, 2), (20, .invokespecial 114, 3), (23, .athrow, 1), (24, .aload_n 0, 1), (25, .getfield 10, 3), (28, .getfield 106, 3), (31, .istore_n 2, 1), (32, .aload_n 0, 1)] := dk_use _ _ (by decide +kernel)
theorem dd_X6_checked_1 : dk_R cX6_checked [(33, .getfield 10, 3), (36, .iload_n 1, 1), (37, .putfield 106, 3), (40, .iload_n 2, 1), (41, .ireturn, 1)] := dk_use _ _ (by decide +kernel)
def fX6_checked (xjg : Int32) (xjs : Int32) (i1 : Int32) : Option (Nat ⊕ (Int32 × Int32)) := (if i1 = 0 then (if i1 = 0 ∨ i1 = 1 then (if xjs = 0 ∨ xjs = 1 then some (.inr (xjs, i1)) else none) else none) else (if xjg = 0 then (if i1 = 0 ∨ i1 = 1 then (if xjs = 0 ∨ xjs = 1 then some (.inr (xjs, i1)) else none) else none) else some (.inl 2)))
abbrev hX6_checked : Cond := .code yX6_checked cX6_checked 3 (some .boolean)
theorem mX6_checked : yM yX6_checked hX6_checked 1 := ⟨u_706, u_57, by decide +kernel, by decide +kernel, by decide +kernel⟩
set_option maxHeartbeats 4000000 in
set_option maxRecDepth 100000 in
theorem kX6_checked (l : Launch) (D : va_G) (cy : Nat → ClassId) (hl0 : l.stackTraces = false) (x : Nat) (xj : Nat) (xw : Nat) (xz : Nat) (xo : Nat) (xy : Nat) (xt : Nat) (xja : Nat) (xjb : Nat) (xjr : Int32) (xjk : Int32) (xjc : Int32) (xjg : Int32) (xjs : Int32) (i1 : Int32) {res : Nat ⊕ (Int32 × Int32)} (hR : fX6_checked xjg xjs i1 = some res) : YX l D cy yX6_checked hX6_checked 6 1 6 [.ref x, .int i1] [[(x, .inr (8, [.ref xj, .ref xw, .ref xz, .ref xo, .ref xy, .ref xt]))], [(xj, .inr (3, [.ref xja, .ref xjb, .int xjr, .int xjk, .int xjc, .int xjg, .int xjs]))]] (fun v u => ∃ r, res = .inr r ∧ v = some (.int r.1) ∧ u = [[(x, .inr (8, [.ref xj, .ref xw, .ref xz, .ref xo, .ref xy, .ref xt]))], [(xj, .inr (3, [.ref xja, .ref xjb, .int xjr, .int xjk, .int xjc, .int xjg, .int r.2]))]]) (fun E u => ∃ r, res = .inl r ∧ E = yE r ∧ u = [[(x, .inr (8, [.ref xj, .ref xw, .ref xz, .ref xo, .ref xy, .ref xt]))], [(xj, .inr (3, [.ref xja, .ref xjb, .int xjr, .int xjk, .int xjc, .int xjg, .int xjs]))]]) := by
  unfold fX6_checked at hR
  refine YX.ofZ (cc := cX6_checked) (maxL := 3) (ret := (some .boolean)) hl0 (by decide +kernel) rfl (Nat.le_of_ble_eq_true rfl) [(0, .ref x), (1, .int i1)] rfl .boolean rfl (fun p e s m args below meth c A H0 Q C ret thr => ?_)
  refine xr_iload_n (n := 1) (j := 1) C dd_X6_checked_0.1 rfl rfl ?_
  refine xr_if_eq (tgt := 24) (n := 4) C dd_X6_checked_0.2.1 rfl rfl (fun c_1 => ?_) (fun c_1 => ?_)
  · replace hR := yf_t c_1 hR
    refine xr_aload_n (n := 25) (j := 0) C dd_X6_checked_0.2.2.2.2.2.2.2.2.2.2.2.1 rfl rfl ?_
    refine xr_get (n := 28) C 0 rfl rfl 0 (by decide) in_X6 u_289 rfl (v := .ref xj) rfl dd_X6_checked_0.2.2.2.2.2.2.2.2.2.2.2.2.1 rfl ?_
    refine xr_getN (n := 31) C 1 rfl rfl 6 (by decide) in_X1 RX6 (List.mem_of_getElem? (i := 9) rfl) rfl (v := .int xjs) rfl dd_X6_checked_0.2.2.2.2.2.2.2.2.2.2.2.2.2.1 rfl ?_
    refine xr_istore_n (n := 32) C [(2, .int xjs), (0, .ref x), (1, .int i1)] dd_X6_checked_0.2.2.2.2.2.2.2.2.2.2.2.2.2.2.1 (by decide) rfl rfl ?_
    refine xr_aload_n (n := 33) (j := 1) C dd_X6_checked_0.2.2.2.2.2.2.2.2.2.2.2.2.2.2.2.1 rfl rfl ?_
    refine xr_get (n := 36) C 0 rfl rfl 0 (by decide) in_X6 u_289 rfl (v := .ref xj) rfl dd_X6_checked_1.1 rfl ?_
    refine xr_iload_n (n := 37) (j := 2) C dd_X6_checked_1.2.1 rfl rfl ?_
    obtain ⟨g_2, hR⟩ := yf_g hR
    refine xr_putN (n := 40) C 1 rfl rfl 6 (by decide) in_X1 tyX1 tyX1_ok nmX1 RX6 (List.mem_of_getElem? (i := 9) rfl) rfl rfl (ynz_f g_2) (ynz_n g_2) (Nat.le_of_ble_eq_true rfl) [[(x, .inr (8, [.ref xj, .ref xw, .ref xz, .ref xo, .ref xy, .ref xt]))], [(xj, .inr (3, [.ref xja, .ref xjb, .int xjr, .int xjk, .int xjc, .int xjg, .int i1]))]] rfl rfl dd_X6_checked_1.2.2.1 ?_
    refine xr_iload_n (n := 41) (j := 0) C dd_X6_checked_1.2.2.2.1 rfl rfl ?_
    obtain ⟨g_3, hR⟩ := yf_g hR
    obtain rfl := Option.some.inj hR
    exact ret xjs (ynz_n g_3) ⟨_, rfl, rfl, rfl⟩ (Nat.le_of_ble_eq_true rfl) (Nat.le_of_ble_eq_true rfl) dd_X6_checked_1.2.2.2.2.1
  · replace hR := yf_f c_1 hR
    refine xr_aload_n (n := 5) (j := 0) C dd_X6_checked_0.2.2.1 rfl rfl ?_
    refine xr_get (n := 8) C 0 rfl rfl 0 (by decide) in_X6 u_289 rfl (v := .ref xj) rfl dd_X6_checked_0.2.2.2.1 rfl ?_
    refine xr_getN (n := 11) C 1 rfl rfl 5 (by decide) in_X1 RX6 (List.mem_of_getElem? (i := 7) rfl) rfl (v := .int xjg) rfl dd_X6_checked_0.2.2.2.2.1 rfl ?_
    refine xr_if_eq (tgt := 24) (n := 14) C dd_X6_checked_0.2.2.2.2.2.1 rfl rfl (fun c_4 => ?_) (fun c_4 => ?_)
    · replace hR := yf_t c_4 hR
      refine xr_aload_n (n := 25) (j := 0) C dd_X6_checked_0.2.2.2.2.2.2.2.2.2.2.2.1 rfl rfl ?_
      refine xr_get (n := 28) C 0 rfl rfl 0 (by decide) in_X6 u_289 rfl (v := .ref xj) rfl dd_X6_checked_0.2.2.2.2.2.2.2.2.2.2.2.2.1 rfl ?_
      refine xr_getN (n := 31) C 1 rfl rfl 6 (by decide) in_X1 RX6 (List.mem_of_getElem? (i := 9) rfl) rfl (v := .int xjs) rfl dd_X6_checked_0.2.2.2.2.2.2.2.2.2.2.2.2.2.1 rfl ?_
      refine xr_istore_n (n := 32) C [(2, .int xjs), (0, .ref x), (1, .int i1)] dd_X6_checked_0.2.2.2.2.2.2.2.2.2.2.2.2.2.2.1 (by decide) rfl rfl ?_
      refine xr_aload_n (n := 33) (j := 1) C dd_X6_checked_0.2.2.2.2.2.2.2.2.2.2.2.2.2.2.2.1 rfl rfl ?_
      refine xr_get (n := 36) C 0 rfl rfl 0 (by decide) in_X6 u_289 rfl (v := .ref xj) rfl dd_X6_checked_1.1 rfl ?_
      refine xr_iload_n (n := 37) (j := 2) C dd_X6_checked_1.2.1 rfl rfl ?_
      obtain ⟨g_5, hR⟩ := yf_g hR
      refine xr_putN (n := 40) C 1 rfl rfl 6 (by decide) in_X1 tyX1 tyX1_ok nmX1 RX6 (List.mem_of_getElem? (i := 9) rfl) rfl rfl (ynz_f g_5) (ynz_n g_5) (Nat.le_of_ble_eq_true rfl) [[(x, .inr (8, [.ref xj, .ref xw, .ref xz, .ref xo, .ref xy, .ref xt]))], [(xj, .inr (3, [.ref xja, .ref xjb, .int xjr, .int xjk, .int xjc, .int xjg, .int i1]))]] rfl rfl dd_X6_checked_1.2.2.1 ?_
      refine xr_iload_n (n := 41) (j := 0) C dd_X6_checked_1.2.2.2.1 rfl rfl ?_
      obtain ⟨g_6, hR⟩ := yf_g hR
      obtain rfl := Option.some.inj hR
      exact ret xjs (ynz_n g_6) ⟨_, rfl, rfl, rfl⟩ (Nat.le_of_ble_eq_true rfl) (Nat.le_of_ble_eq_true rfl) dd_X6_checked_1.2.2.2.2.1
    · replace hR := yf_f c_4 hR
      obtain rfl := Option.some.inj hR
      exact thr "java/lang/IllegalStateException" "only sums of products can be checked" 110 112 114 yt_X6_112 ⟨_, rfl, rfl, rfl⟩ (Nat.le_of_ble_eq_true rfl) (Nat.le_of_ble_eq_true rfl) (Nat.le_of_ble_eq_true rfl) (Nat.le_of_ble_eq_true rfl) dd_X6_checked_0.2.2.2.2.2.2.1 dd_X6_checked_0.2.2.2.2.2.2.2.1 dd_X6_checked_0.2.2.2.2.2.2.2.2.1 dd_X6_checked_0.2.2.2.2.2.2.2.2.2.1 dd_X6_checked_0.2.2.2.2.2.2.2.2.2.2.1
theorem dd_X6_broken_0 : dk_R cX6_broken [(0, .iload_n 1, 1), (1, .iload_n 2, 1), (2, .invokestatic 115, 3), (5, .ifCond .ne 13, 3), (8, .new 69, 3), (11, .dup, 1), (12, .ldc 119, 2), (14, .invokespecial 73, 3), (17, .athrow, 1), (18, .aload_n 0, 1), (19, .getfield 19, 3), (22, .iload_n 1, 1), (23, .iload_n 2, 1), (24, .iload_n 3, 1), (25, .invokevirtual 121, 3), (28, .aload_n 0, 1)] := dk_use _ _ (by decide +kernel)
theorem dd_X6_broken_1 : dk_R cX6_broken [(29, .getfield 19, 3), (32, .getfield 125, 3), (35, .invokestatic 128, 3), (38, .ireturn, 1)] := dk_use _ _ (by decide +kernel)
def fX6_broken (xwb : Int32) (xwk : Int32) (i1 : Int32) (i2 : Int32) (isb : Int32) : Option (Nat ⊕ (Int32 × Int32 × Int32)) := ((fX6_isOnMesh i1 i2).bind fun x_1 => (if x_1 = 0 then some (.inl 1) else ((fX0_mark xwb xwk i1 i2 isb).bind fun x_6 => ((fJ6_bitCount_0f7a4 x_6.1).bind fun x_10 => some (.inr (x_10, x_6.1, x_6.2))))))
abbrev hX6_broken : Cond := .code yX6_broken cX6_broken 4 (some .int)
theorem mX6_broken : yM yX6_broken hX6_broken 3 := ⟨u_729, u_57, by decide +kernel, by decide +kernel, by decide +kernel⟩
set_option maxHeartbeats 4000000 in
set_option maxRecDepth 100000 in
theorem kX6_broken (l : Launch) (D : va_G) (cy : Nat → ClassId) (hl0 : l.stackTraces = false) (x : Nat) (xj : Nat) (xw : Nat) (xz : Nat) (xo : Nat) (xy : Nat) (xt : Nat) (xwu : Nat) (xwm : Nat) (xwb : Int32) (xwk : Int32) (i1 : Int32) (i2 : Int32) (isb : Int32) {res : Nat ⊕ (Int32 × Int32 × Int32)} (hR : fX6_broken xwb xwk i1 i2 isb = some res) : YX l D cy yX6_broken hX6_broken 6 1 6 [.ref x, .int i1, .int i2, .int isb] [[(x, .inr (8, [.ref xj, .ref xw, .ref xz, .ref xo, .ref xy, .ref xt]))], [(xw, .inr (2, [.ref xwu, .ref xwm, .int xwb, .int xwk]))]] (fun v u => ∃ r, res = .inr r ∧ v = some (.int r.1) ∧ u = [[(x, .inr (8, [.ref xj, .ref xw, .ref xz, .ref xo, .ref xy, .ref xt]))], [(xw, .inr (2, [.ref xwu, .ref xwm, .int r.2.1, .int r.2.2]))]]) (fun E u => ∃ r, res = .inl r ∧ E = yE r ∧ u = [[(x, .inr (8, [.ref xj, .ref xw, .ref xz, .ref xo, .ref xy, .ref xt]))], [(xw, .inr (2, [.ref xwu, .ref xwm, .int xwb, .int xwk]))]]) := by
  unfold fX6_broken at hR
  refine YX.ofI (cc := cX6_broken) (maxL := 4) (ret := (some .int)) hl0 (by decide +kernel) rfl (Nat.le_of_ble_eq_true rfl) [(0, .ref x), (1, .int i1), (2, .int i2), (3, .int isb)] rfl rfl (fun p e s m args below meth c A H0 Q C ret thr => ?_)
  refine xr_iload_n (n := 1) (j := 1) C dd_X6_broken_0.1 rfl rfl ?_
  refine xr_iload_n (n := 2) (j := 2) C dd_X6_broken_0.2.1 rfl rfl ?_
  obtain ⟨x_1, hx_1, hR⟩ := yf_b hR
  refine xr_callSp (n := 5) (As := [.int i1, .int i2]) (rest := []) C (kX6_isOnMesh l D cy (i1 := i1) (i2 := i2) hx_1) mX6_isOnMesh u_730 u_731 2 [] [0, 1] rfl (by decide +kernel) rfl rfl rfl rfl (Nat.le_of_ble_eq_true rfl) (Nat.le_of_ble_eq_true rfl) (Nat.le_of_ble_eq_true rfl) (Nat.le_of_ble_eq_true rfl) (Nat.le_of_ble_eq_true rfl) dd_X6_broken_0.2.2.1 rfl (fun _ _ hp => hp.2) (fun v_2 hp_4 => ?_)
  obtain ⟨rfl, -⟩ := hp_4
  refine xr_st (st' := [.int x_1]) rfl ?_
  refine xr_if_ne (tgt := 18) (n := 8) C dd_X6_broken_0.2.2.2.1 rfl rfl (fun c_5 => ?_) (fun c_5 => ?_)
  · replace hR := yf_f c_5 hR
    refine xr_aload_n (n := 19) (j := 0) C dd_X6_broken_0.2.2.2.2.2.2.2.2.2.1 rfl rfl ?_
    refine xr_get (n := 22) C 0 rfl rfl 1 (by decide) in_X6 u_290 rfl (v := .ref xw) rfl dd_X6_broken_0.2.2.2.2.2.2.2.2.2.2.1 rfl ?_
    refine xr_iload_n (n := 23) (j := 1) C dd_X6_broken_0.2.2.2.2.2.2.2.2.2.2.2.1 rfl rfl ?_
    refine xr_iload_n (n := 24) (j := 2) C dd_X6_broken_0.2.2.2.2.2.2.2.2.2.2.2.2.1 rfl rfl ?_
    refine xr_iload_n (n := 25) (j := 3) C dd_X6_broken_0.2.2.2.2.2.2.2.2.2.2.2.2.2.1 rfl rfl ?_
    obtain ⟨x_6, hx_6, hR⟩ := yf_b hR
    refine xr_callV (n := 28) (As := [.int i1, .int i2, .int isb]) (rest := []) C (kX0_mark l D cy (w := xw) (wu := xwu) (wm := xwm) (wb := xwb) (wk := xwk) (i1 := i1) (i2 := i2) (isb := isb) hx_6) mX0_mark u_734 u_735 u_736 1 rfl rfl 2 [1] [0] rfl (by decide +kernel) rfl rfl rfl rfl (Nat.le_of_ble_eq_true rfl) (Nat.le_of_ble_eq_true rfl) (Nat.le_of_ble_eq_true rfl) (Nat.le_of_ble_eq_true rfl) (Nat.le_of_ble_eq_true rfl) dd_X6_broken_0.2.2.2.2.2.2.2.2.2.2.2.2.2.2.1 rfl (fun v_7 u_8 hp_9 => ?_)
    obtain ⟨rfl, rfl⟩ := hp_9
    refine xr_perm C 2 [1, 0] [] [[(x, .inr (8, [.ref xj, .ref xw, .ref xz, .ref xo, .ref xy, .ref xt]))], [(xw, .inr (2, [.ref xwu, .ref xwm, .int x_6.1, .int x_6.2]))]] rfl (by decide +kernel) rfl ?_
    refine xr_aload_n (n := 29) (j := 0) C dd_X6_broken_0.2.2.2.2.2.2.2.2.2.2.2.2.2.2.2.1 rfl rfl ?_
    refine xr_get (n := 32) C 0 rfl rfl 1 (by decide) in_X6 u_290 rfl (v := .ref xw) rfl dd_X6_broken_1.1 rfl ?_
    refine xr_getN (n := 35) C 1 rfl rfl 2 (by decide) in_X0 RX6 (List.mem_of_getElem? (i := 15) rfl) rfl (v := .int x_6.1) rfl dd_X6_broken_1.2.1 rfl ?_
    obtain ⟨x_10, hx_10, hR⟩ := yf_b hR
    refine xr_callSp (n := 38) (As := [.int x_6.1]) (rest := []) C (kJ6_bitCount_0f7a4 l D cy (i1 := x_6.1) hx_10) mJ6_bitCount_0f7a4 u_467 u_349 2 [] [0, 1] rfl (by decide +kernel) rfl rfl rfl rfl (Nat.le_of_ble_eq_true rfl) (Nat.le_of_ble_eq_true rfl) (Nat.le_of_ble_eq_true rfl) (Nat.le_of_ble_eq_true rfl) (Nat.le_of_ble_eq_true rfl) dd_X6_broken_1.2.2.1 rfl (fun _ _ hp => hp.2) (fun v_11 hp_13 => ?_)
    obtain ⟨rfl, -⟩ := hp_13
    refine xr_st (st' := [.int x_10]) rfl ?_
    obtain rfl := Option.some.inj hR
    exact ret x_10 ⟨_, rfl, rfl, rfl⟩ (Nat.le_of_ble_eq_true rfl) (Nat.le_of_ble_eq_true rfl) dd_X6_broken_1.2.2.2.1
  · replace hR := yf_t c_5 hR
    obtain rfl := Option.some.inj hR
    exact thr "java/lang/IndexOutOfBoundsException" "the mesh has no such cell" 69 119 73 yt_X6_119 ⟨_, rfl, rfl, rfl⟩ (Nat.le_of_ble_eq_true rfl) (Nat.le_of_ble_eq_true rfl) (Nat.le_of_ble_eq_true rfl) (Nat.le_of_ble_eq_true rfl) dd_X6_broken_0.2.2.2.2.1 dd_X6_broken_0.2.2.2.2.2.1 dd_X6_broken_0.2.2.2.2.2.2.1 dd_X6_broken_0.2.2.2.2.2.2.2.1 dd_X6_broken_0.2.2.2.2.2.2.2.2.1
theorem dd_X6_test_0 : dk_R cX6_test [(0, .aload_n 0, 1), (1, .getfield 33, 3), (4, .invokevirtual 134, 3), (7, .ifCond .eq 13, 3), (10, .new 110, 3), (13, .dup, 1), (14, .ldc 138, 2), (16, .invokespecial 114, 3), (19, .athrow, 1), (20, .aload_n 0, 1), (21, .getfield 19, 3), (24, .invokevirtual 140, 3), (27, .ireturn, 1)] := dk_use _ _ (by decide +kernel)
def fX6_test (xwb : Int32) (xwk : Int32) (xobl : Int32) : Option (Nat ⊕ (Int32 × Int32)) := ((fX5_runs xobl).bind fun x_1 => (if x_1 = 0 then ((fX0_findBroken xwb xwk).bind fun x_6 => some (.inr (x_6.1, x_6.2))) else some (.inl 2)))
abbrev hX6_test : Cond := .code yX6_test cX6_test 1 (some .int)
theorem mX6_test : yM yX6_test hX6_test 0 := ⟨u_744, u_57, by decide +kernel, by decide +kernel, by decide +kernel⟩
set_option maxHeartbeats 4000000 in
set_option maxRecDepth 100000 in
theorem kX6_test (l : Launch) (D : va_G) (cy : Nat → ClassId) (hl0 : l.stackTraces = false) (x : Nat) (xj : Nat) (xw : Nat) (xz : Nat) (xo : Nat) (xy : Nat) (xt : Nat) (xwu : Nat) (xwm : Nat) (xwb : Int32) (xwk : Int32) (xoj : Nat) (xoy : Nat) (xosk : Int32) (xoti : Int32) (xofr : Int32) (xofc : Int32) (xobt : Int32) (xobl : Int32) (xobe : Int32) (xose : Int32) (xotk : Int32) {res : Nat ⊕ (Int32 × Int32)} (hR : fX6_test xwb xwk xobl = some res) : YX l D cy yX6_test hX6_test 6 1 6 [.ref x] [[(x, .inr (8, [.ref xj, .ref xw, .ref xz, .ref xo, .ref xy, .ref xt]))], [(xw, .inr (2, [.ref xwu, .ref xwm, .int xwb, .int xwk]))], [(xo, .inr (7, [.ref xoj, .ref xoy, .int xosk, .int xoti, .int xofr, .int xofc, .int xobt, .int xobl, .int xobe, .int xose, .int xotk]))]] (fun v u => ∃ r, res = .inr r ∧ v = some (.int r.1) ∧ u = [[(x, .inr (8, [.ref xj, .ref xw, .ref xz, .ref xo, .ref xy, .ref xt]))], [(xw, .inr (2, [.ref xwu, .ref xwm, .int xwb, .int r.2]))], [(xo, .inr (7, [.ref xoj, .ref xoy, .int xosk, .int xoti, .int xofr, .int xofc, .int xobt, .int xobl, .int xobe, .int xose, .int xotk]))]]) (fun E u => ∃ r, res = .inl r ∧ E = yE r ∧ u = [[(x, .inr (8, [.ref xj, .ref xw, .ref xz, .ref xo, .ref xy, .ref xt]))], [(xw, .inr (2, [.ref xwu, .ref xwm, .int xwb, .int xwk]))], [(xo, .inr (7, [.ref xoj, .ref xoy, .int xosk, .int xoti, .int xofr, .int xofc, .int xobt, .int xobl, .int xobe, .int xose, .int xotk]))]]) := by
  unfold fX6_test at hR
  refine YX.ofI (cc := cX6_test) (maxL := 1) (ret := (some .int)) hl0 (by decide +kernel) rfl (Nat.le_of_ble_eq_true rfl) [(0, .ref x)] rfl rfl (fun p e s m args below meth c A H0 Q C ret thr => ?_)
  refine xr_aload_n (n := 1) (j := 0) C dd_X6_test_0.1 rfl rfl ?_
  refine xr_get (n := 4) C 0 rfl rfl 3 (by decide) in_X6 u_292 rfl (v := .ref xo) rfl dd_X6_test_0.2.1 rfl ?_
  obtain ⟨x_1, hx_1, hR⟩ := yf_b hR
  refine xr_callVp (n := 7) (As := []) (rest := []) C (kX5_runs l D cy (o := xo) (oj := xoj) (oy := xoy) (osk := xosk) (oti := xoti) (ofr := xofr) (ofc := xofc) (obt := xobt) (obl := xobl) (obe := xobe) (ose := xose) (otk := xotk) hx_1) mX5_runs u_468 u_430 u_431 2 rfl rfl 3 [2] [0, 1] rfl (by decide +kernel) rfl rfl rfl rfl (Nat.le_of_ble_eq_true rfl) (Nat.le_of_ble_eq_true rfl) (Nat.le_of_ble_eq_true rfl) (Nat.le_of_ble_eq_true rfl) (Nat.le_of_ble_eq_true rfl) dd_X6_test_0.2.2.1 rfl (fun _ _ hp => hp.2) (fun v_2 hp_4 => ?_)
  obtain ⟨rfl, -⟩ := hp_4
  refine xr_st (st' := [.int x_1]) rfl ?_
  refine xr_if_eq (tgt := 20) (n := 10) C dd_X6_test_0.2.2.2.1 rfl rfl (fun c_5 => ?_) (fun c_5 => ?_)
  · replace hR := yf_t c_5 hR
    refine xr_aload_n (n := 21) (j := 0) C dd_X6_test_0.2.2.2.2.2.2.2.2.2.1 rfl rfl ?_
    refine xr_get (n := 24) C 0 rfl rfl 1 (by decide) in_X6 u_290 rfl (v := .ref xw) rfl dd_X6_test_0.2.2.2.2.2.2.2.2.2.2.1 rfl ?_
    obtain ⟨x_6, hx_6, hR⟩ := yf_b hR
    refine xr_callV (n := 27) (As := []) (rest := []) C (kX0_findBroken l D cy (w := xw) (wu := xwu) (wm := xwm) (wb := xwb) (wk := xwk) hx_6) mX0_findBroken u_746 u_747 u_748 1 rfl rfl 3 [1] [0, 2] rfl (by decide +kernel) rfl rfl rfl rfl (Nat.le_of_ble_eq_true rfl) (Nat.le_of_ble_eq_true rfl) (Nat.le_of_ble_eq_true rfl) (Nat.le_of_ble_eq_true rfl) (Nat.le_of_ble_eq_true rfl) dd_X6_test_0.2.2.2.2.2.2.2.2.2.2.2.1 rfl (fun v_7 u_8 hp_9 => ?_)
    obtain ⟨rfl, rfl⟩ := hp_9
    refine xr_perm C 3 [1, 0, 2] [] [[(x, .inr (8, [.ref xj, .ref xw, .ref xz, .ref xo, .ref xy, .ref xt]))], [(xw, .inr (2, [.ref xwu, .ref xwm, .int xwb, .int x_6.2]))], [(xo, .inr (7, [.ref xoj, .ref xoy, .int xosk, .int xoti, .int xofr, .int xofc, .int xobt, .int xobl, .int xobe, .int xose, .int xotk]))]] rfl (by decide +kernel) rfl ?_
    refine xr_st (st' := [.int x_6.1]) rfl ?_
    obtain rfl := Option.some.inj hR
    exact ret x_6.1 ⟨_, rfl, rfl, rfl⟩ (Nat.le_of_ble_eq_true rfl) (Nat.le_of_ble_eq_true rfl) dd_X6_test_0.2.2.2.2.2.2.2.2.2.2.2.2.1
  · replace hR := yf_f c_5 hR
    obtain rfl := Option.some.inj hR
    exact thr "java/lang/IllegalStateException" "a work runs" 110 138 114 yt_X6_138 ⟨_, rfl, rfl, rfl⟩ (Nat.le_of_ble_eq_true rfl) (Nat.le_of_ble_eq_true rfl) (Nat.le_of_ble_eq_true rfl) (Nat.le_of_ble_eq_true rfl) dd_X6_test_0.2.2.2.2.1 dd_X6_test_0.2.2.2.2.2.1 dd_X6_test_0.2.2.2.2.2.2.1 dd_X6_test_0.2.2.2.2.2.2.2.1 dd_X6_test_0.2.2.2.2.2.2.2.2.1
theorem dd_X6_beatsOn_0 : dk_R cX6_beatsOn [(0, .aload_n 0, 1), (1, .getfield 19, 3), (4, .iload_n 1, 1), (5, .iload_n 2, 1), (6, .invokevirtual 332, 3), (9, .ifCond .eq 5, 3), (12, .iconst (-1), 1), (13, .ireturn, 1), (14, .aload_n 0, 1), (15, .getfield 44, 3), (18, .iload_n 1, 1), (19, .iload_n 2, 1), (20, .invokevirtual 318, 3), (23, .aload_n 0, 1), (24, .getfield 44, 3), (27, .getfield 304, 3)] := dk_use _ _ (by decide +kernel)
theorem dd_X6_beatsOn_1 : dk_R cX6_beatsOn [(30, .ireturn, 1)] := dk_use _ _ (by decide +kernel)
def fX6_beatsOn (xwk : Int32) (xt0 : Int32) (xt1 : Int32) (xt2 : Int32) (xt3 : Int32) (xt4 : Int32) (xt5 : Int32) (xt6 : Int32) (xt7 : Int32) (xt8 : Int32) (xt9 : Int32) (i1 : Int32) (i2 : Int32) : Option (Int32 × Int32 × Int32 × Int32 × Int32 × Int32 × Int32 × Int32) := ((fX0_crossKnown xwk i1 i2).bind fun x_1 => (if x_1 = 0 then ((fX2_lay xt0 xt1 xt2 i1 i2).bind fun x_6 => some (x_6.2.2.2.2.2.2, x_6.1, x_6.2.1, x_6.2.2.1, x_6.2.2.2.1, x_6.2.2.2.2.1, x_6.2.2.2.2.2.1, x_6.2.2.2.2.2.2)) else some (-1, xt3, xt4, xt5, xt6, xt7, xt8, xt9)))
abbrev hX6_beatsOn : Cond := .code yX6_beatsOn cX6_beatsOn 3 (some .int)
theorem mX6_beatsOn : yM yX6_beatsOn hX6_beatsOn 2 := ⟨u_411, u_57, by decide +kernel, by decide +kernel, by decide +kernel⟩
set_option maxHeartbeats 4000000 in
set_option maxRecDepth 100000 in
theorem kX6_beatsOn (l : Launch) (D : va_G) (cy : Nat → ClassId) (x : Nat) (xj : Nat) (xw : Nat) (xz : Nat) (xo : Nat) (xy : Nat) (xt : Nat) (xwu : Nat) (xwm : Nat) (xwb : Int32) (xwk : Int32) (xt0 : Int32) (xt1 : Int32) (xt2 : Int32) (xt3 : Int32) (xt4 : Int32) (xt5 : Int32) (xt6 : Int32) (xt7 : Int32) (xt8 : Int32) (xt9 : Int32) (i1 : Int32) (i2 : Int32) {res : Int32 × Int32 × Int32 × Int32 × Int32 × Int32 × Int32 × Int32} (hR : fX6_beatsOn xwk xt0 xt1 xt2 xt3 xt4 xt5 xt6 xt7 xt8 xt9 i1 i2 = some res) : YM l D cy yX6_beatsOn hX6_beatsOn 3 0 0 [.ref x, .int i1, .int i2] [[(x, .inr (8, [.ref xj, .ref xw, .ref xz, .ref xo, .ref xy, .ref xt]))], [(xw, .inr (2, [.ref xwu, .ref xwm, .int xwb, .int xwk]))], [(xt, .inr (4, [.int xt0, .int xt1, .int xt2, .int xt3, .int xt4, .int xt5, .int xt6, .int xt7, .int xt8, .int xt9]))]] (fun v u => v = some (.int res.1) ∧ u = [[(x, .inr (8, [.ref xj, .ref xw, .ref xz, .ref xo, .ref xy, .ref xt]))], [(xw, .inr (2, [.ref xwu, .ref xwm, .int xwb, .int xwk]))], [(xt, .inr (4, [.int xt0, .int xt1, .int xt2, .int res.2.1, .int res.2.2.1, .int res.2.2.2.1, .int res.2.2.2.2.1, .int res.2.2.2.2.2.1, .int res.2.2.2.2.2.2.1, .int res.2.2.2.2.2.2.2]))]]) := by
  unfold fX6_beatsOn at hR
  refine YM.ofI (cc := cX6_beatsOn) (maxL := 3) (ret := (some .int)) (by decide +kernel) rfl (Nat.le_of_ble_eq_true rfl) [(0, .ref x), (1, .int i1), (2, .int i2)] rfl rfl (fun p e s m args below meth c A H0 Q C hnm ret => ?_)
  refine xr_aload_n (n := 1) (j := 0) C dd_X6_beatsOn_0.1 rfl rfl ?_
  refine xr_get (n := 4) C 0 rfl rfl 1 (by decide) in_X6 u_290 rfl (v := .ref xw) rfl dd_X6_beatsOn_0.2.1 rfl ?_
  refine xr_iload_n (n := 5) (j := 1) C dd_X6_beatsOn_0.2.2.1 rfl rfl ?_
  refine xr_iload_n (n := 6) (j := 2) C dd_X6_beatsOn_0.2.2.2.1 rfl rfl ?_
  obtain ⟨x_1, hx_1, hR⟩ := yf_b hR
  refine xr_callVp (n := 9) (As := [.int i1, .int i2]) (rest := []) C (kX0_crossKnown l D cy (w := xw) (wu := xwu) (wm := xwm) (wb := xwb) (wk := xwk) (i1 := i1) (i2 := i2) hx_1) mX0_crossKnown u_403 u_404 u_405 1 rfl rfl 3 [1] [0, 2] rfl (by decide +kernel) rfl rfl rfl rfl (Nat.le_of_ble_eq_true rfl) (Nat.le_of_ble_eq_true rfl) (Nat.le_of_ble_eq_true rfl) (Nat.le_of_ble_eq_true rfl) (Nat.le_of_ble_eq_true rfl) dd_X6_beatsOn_0.2.2.2.2.1 rfl (fun _ _ hp => hp.2) (fun v_2 hp_4 => ?_)
  obtain ⟨rfl, -⟩ := hp_4
  refine xr_st (st' := [.int x_1]) rfl ?_
  refine xr_if_eq (tgt := 14) (n := 12) C dd_X6_beatsOn_0.2.2.2.2.2.1 rfl rfl (fun c_5 => ?_) (fun c_5 => ?_)
  · replace hR := yf_t c_5 hR
    refine xr_aload_n (n := 15) (j := 0) C dd_X6_beatsOn_0.2.2.2.2.2.2.2.2.1 rfl rfl ?_
    refine xr_get (n := 18) C 0 rfl rfl 5 (by decide) in_X6 u_294 rfl (v := .ref xt) rfl dd_X6_beatsOn_0.2.2.2.2.2.2.2.2.2.1 rfl ?_
    refine xr_iload_n (n := 19) (j := 1) C dd_X6_beatsOn_0.2.2.2.2.2.2.2.2.2.2.1 rfl rfl ?_
    refine xr_iload_n (n := 20) (j := 2) C dd_X6_beatsOn_0.2.2.2.2.2.2.2.2.2.2.2.1 rfl rfl ?_
    obtain ⟨x_6, hx_6, hR⟩ := yf_b hR
    refine xr_callV (n := 23) (As := [.int i1, .int i2]) (rest := []) C (kX2_lay l D cy (y := xt) (y0 := xt0) (y1 := xt1) (y2 := xt2) (y3 := xt3) (y4 := xt4) (y5 := xt5) (y6 := xt6) (y7 := xt7) (y8 := xt8) (y9 := xt9) (i1 := i1) (i2 := i2) hx_6) mX2_lay u_354 u_355 u_356 2 rfl rfl 3 [2] [0, 1] rfl (by decide +kernel) rfl rfl rfl rfl (Nat.le_of_ble_eq_true rfl) (Nat.le_of_ble_eq_true rfl) (Nat.le_of_ble_eq_true rfl) (Nat.le_of_ble_eq_true rfl) (Nat.le_of_ble_eq_true rfl) dd_X6_beatsOn_0.2.2.2.2.2.2.2.2.2.2.2.2.1 rfl (fun v_7 u_8 hp_9 => ?_)
    obtain ⟨rfl, rfl⟩ := hp_9
    refine xr_perm C 3 [1, 2, 0] [] [[(x, .inr (8, [.ref xj, .ref xw, .ref xz, .ref xo, .ref xy, .ref xt]))], [(xw, .inr (2, [.ref xwu, .ref xwm, .int xwb, .int xwk]))], [(xt, .inr (4, [.int xt0, .int xt1, .int xt2, .int x_6.1, .int x_6.2.1, .int x_6.2.2.1, .int x_6.2.2.2.1, .int x_6.2.2.2.2.1, .int x_6.2.2.2.2.2.1, .int x_6.2.2.2.2.2.2]))]] rfl (by decide +kernel) rfl ?_
    refine xr_aload_n (n := 24) (j := 0) C dd_X6_beatsOn_0.2.2.2.2.2.2.2.2.2.2.2.2.2.1 rfl rfl ?_
    refine xr_get (n := 27) C 0 rfl rfl 5 (by decide) in_X6 u_294 rfl (v := .ref xt) rfl dd_X6_beatsOn_0.2.2.2.2.2.2.2.2.2.2.2.2.2.2.1 rfl ?_
    refine xr_getN (n := 30) C 2 rfl rfl 9 (by decide) in_X2 RX6 (List.mem_of_getElem? (i := 38) rfl) rfl (v := .int x_6.2.2.2.2.2.2) rfl dd_X6_beatsOn_0.2.2.2.2.2.2.2.2.2.2.2.2.2.2.2.1 rfl ?_
    obtain rfl := Option.some.inj hR
    exact ret x_6.2.2.2.2.2.2 ⟨rfl, rfl⟩ (Nat.le_of_ble_eq_true rfl) (Nat.le_of_ble_eq_true rfl) dd_X6_beatsOn_1.1
  · replace hR := yf_f c_5 hR
    refine xr_iconst (n := 13) (v := -1) C dd_X6_beatsOn_0.2.2.2.2.2.2.1 rfl rfl ?_
    obtain rfl := Option.some.inj hR
    exact ret (-1) ⟨rfl, rfl⟩ (Nat.le_of_ble_eq_true rfl) (Nat.le_of_ble_eq_true rfl) dd_X6_beatsOn_0.2.2.2.2.2.2.2.1
