theorem u_689 : Cond.code yX6_top cX6_top 5 (some .int) ∈ yU := yu_tables_1_3 153 (by decide +kernel) (by decide +kernel)
theorem u_697 : Cond.code yX6_kind cX6_kind 3 (some .int) ∈ yU := yu_tables_1_3 161 (by decide +kernel) (by decide +kernel)
theorem u_706 : Cond.code yX6_checked cX6_checked 3 (some .boolean) ∈ yU := yu_tables_1_3 170 (by decide +kernel) (by decide +kernel)
theorem u_730 : Cond.methodLink RX6 115 yX6_isOnMesh ∈ yU := yu_tables_1_3 194 (by decide +kernel) (by decide +kernel)
theorem u_731 : Cond.static yX6_isOnMesh ∈ yU := yu_tables_1_3 195 (by decide +kernel) (by decide +kernel)
theorem u_290 : Cond.fieldLink RX6 19 "Pulsemesh" "cells" "LPulsemesh$Cells;" ∈ yU := yu_tables_1_1 234 (by decide +kernel) (by decide +kernel)
theorem u_734 : Cond.methodLink RX6 121 yX0_mark ∈ yU := yu_tables_1_3 198 (by decide +kernel) (by decide +kernel)
theorem u_735 : Cond.instanceMethod yX0_mark ∈ yU := yu_tables_1_3 199 (by decide +kernel) (by decide +kernel)
theorem u_736 : Cond.selects RX0 yX0_mark yX0_mark ∈ yU := yu_tables_1_3 200 (by decide +kernel) (by decide +kernel)
theorem u_467 : Cond.methodLink RX6 128 yJ6_bitCount_0f7a4 ∈ yU := yu_tables_1_2 171 (by decide +kernel) (by decide +kernel)
theorem u_729 : Cond.code yX6_broken cX6_broken 4 (some .int) ∈ yU := yu_tables_1_3 193 (by decide +kernel) (by decide +kernel)
theorem u_292 : Cond.fieldLink RX6 33 "Pulsemesh" "work" "LPulsemesh$Work;" ∈ yU := yu_tables_1_1 236 (by decide +kernel) (by decide +kernel)
theorem u_468 : Cond.methodLink RX6 134 yX5_runs ∈ yU := yu_tables_1_2 172 (by decide +kernel) (by decide +kernel)
theorem u_746 : Cond.methodLink RX6 140 yX0_findBroken ∈ yU := yu_tables_1_3 210 (by decide +kernel) (by decide +kernel)
theorem u_747 : Cond.instanceMethod yX0_findBroken ∈ yU := yu_tables_1_3 211 (by decide +kernel) (by decide +kernel)
theorem u_748 : Cond.selects RX0 yX0_findBroken yX0_findBroken ∈ yU := yu_tables_1_3 212 (by decide +kernel) (by decide +kernel)
theorem u_744 : Cond.code yX6_test cX6_test 1 (some .int) ∈ yU := yu_tables_1_3 208 (by decide +kernel) (by decide +kernel)
theorem u_403 : Cond.methodLink RX6 332 yX0_crossKnown ∈ yU := yu_tables_1_2 107 (by decide +kernel) (by decide +kernel)
theorem u_404 : Cond.instanceMethod yX0_crossKnown ∈ yU := yu_tables_1_2 108 (by decide +kernel) (by decide +kernel)
theorem u_405 : Cond.selects RX0 yX0_crossKnown yX0_crossKnown ∈ yU := yu_tables_1_2 109 (by decide +kernel) (by decide +kernel)
theorem u_294 : Cond.fieldLink RX6 44 "Pulsemesh" "tried" "LPulsemesh$Layout;" ∈ yU := yu_tables_1_1 238 (by decide +kernel) (by decide +kernel)
theorem u_354 : Cond.methodLink RX6 318 yX2_lay ∈ yU := yu_tables_1_2 58 (by decide +kernel) (by decide +kernel)
theorem u_411 : Cond.code yX6_beatsOn cX6_beatsOn 3 (some .int) ∈ yU := yu_tables_1_2 115 (by decide +kernel) (by decide +kernel)
theorem u_707 : Cond.classLink RX6 110 "java/lang/IllegalStateException" ∈ yU := yu_tables_1_3 171 (by decide +kernel) (by decide +kernel)
theorem u_72 : Cond.initialized "java/lang/IllegalStateException" ∈ yU := yu_tables_1_1 16 (by decide +kernel) (by decide +kernel)
theorem yt_X6_96 : yT RX6 "java/lang/IndexOutOfBoundsException" "B has no such row or column" 69 96 73 := ⟨by decide +kernel, u_659, u_71, by decide +kernel, ytb_1⟩
theorem yt_X6_101 : yT RX6 "java/lang/IllegalArgumentException" "a kind is 0 to 2" 47 101 51 := ⟨by decide +kernel, u_571, u_70, by decide +kernel, ytb_0⟩
theorem ytb_2 : (∀ w ∈ (vx_atS RX6 114 "java/lang/IllegalStateException" yNames).filter goodWord, w ∈ yU) ∧ (∀ w ∈ (vx_atS RX6 114 "java/lang/IllegalStateException" yNames).filter (fun w => !goodWord w), w ∈ xn_nw) ∧ ∀ w ∈ Cond.classLink RX6 110 "java/lang/IllegalStateException" :: Cond.initialized "java/lang/IllegalStateException" :: vx_atS RX6 114 "java/lang/IllegalStateException" yNames, vx_ot w = true := ⟨yt_good (by decide +kernel), by decide +kernel, by decide +kernel⟩
theorem yt_X6_112 : yT RX6 "java/lang/IllegalStateException" "only sums of products can be checked" 110 112 114 := ⟨by decide +kernel, u_707, u_72, by decide +kernel, ytb_2⟩
theorem yt_X6_119 : yT RX6 "java/lang/IndexOutOfBoundsException" "the mesh has no such cell" 69 119 73 := ⟨by decide +kernel, u_659, u_71, by decide +kernel, ytb_1⟩
theorem yt_X6_138 : yT RX6 "java/lang/IllegalStateException" "a work runs" 110 138 114 := ⟨by decide +kernel, u_707, u_72, by decide +kernel, ytb_2⟩
theorem dX6_top_0 : decode cX6_top 0 = .ok (.iload_n 1, 1) := by decide +kernel
theorem dX6_top_1 : decode cX6_top 1 = .ok (.ifCond .lt 29, 3) := by decide +kernel
theorem dX6_top_4 : decode cX6_top 4 = .ok (.iload_n 1, 1) := by decide +kernel
theorem dX6_top_5 : decode cX6_top 5 = .ok (.aload_n 0, 1) := by decide +kernel
theorem dX6_top_6 : decode cX6_top 6 = .ok (.getfield 10, 3) := by decide +kernel
theorem dX6_top_9 : decode cX6_top 9 = .ok (.getfield 66, 3) := by decide +kernel
theorem dX6_top_12 : decode cX6_top 12 = .ok (.if_icmp .ge 18, 3) := by decide +kernel
theorem dX6_top_15 : decode cX6_top 15 = .ok (.iload_n 2, 1) := by decide +kernel
theorem dX6_top_16 : decode cX6_top 16 = .ok (.ifCond .lt 14, 3) := by decide +kernel
theorem dX6_top_19 : decode cX6_top 19 = .ok (.iload_n 2, 1) := by decide +kernel
theorem dX6_top_20 : decode cX6_top 20 = .ok (.aload_n 0, 1) := by decide +kernel
theorem dX6_top_21 : decode cX6_top 21 = .ok (.getfield 10, 3) := by decide +kernel
theorem dX6_top_24 : decode cX6_top 24 = .ok (.getfield 93, 3) := by decide +kernel
theorem dX6_top_27 : decode cX6_top 27 = .ok (.if_icmp .lt 13, 3) := by decide +kernel
theorem dX6_top_30 : decode cX6_top 30 = .ok (.new 69, 3) := by decide +kernel
theorem dX6_top_33 : decode cX6_top 33 = .ok (.dup, 1) := by decide +kernel
theorem dX6_top_34 : decode cX6_top 34 = .ok (.ldc 96, 2) := by decide +kernel
theorem dX6_top_36 : decode cX6_top 36 = .ok (.invokespecial 73, 3) := by decide +kernel
theorem dX6_top_39 : decode cX6_top 39 = .ok (.athrow, 1) := by decide +kernel
theorem dX6_top_40 : decode cX6_top 40 = .ok (.iload_n 3, 1) := by decide +kernel
theorem dX6_top_41 : decode cX6_top 41 = .ok (.invokestatic 74, 3) := by decide +kernel
theorem dX6_top_44 : decode cX6_top 44 = .ok (.ifCond .ne 13, 3) := by decide +kernel
theorem dX6_top_47 : decode cX6_top 47 = .ok (.new 47, 3) := by decide +kernel
theorem dX6_top_50 : decode cX6_top 50 = .ok (.dup, 1) := by decide +kernel
theorem dX6_top_51 : decode cX6_top 51 = .ok (.ldc 78, 2) := by decide +kernel
theorem dX6_top_53 : decode cX6_top 53 = .ok (.invokespecial 51, 3) := by decide +kernel
theorem dX6_top_56 : decode cX6_top 56 = .ok (.athrow, 1) := by decide +kernel
theorem dX6_top_57 : decode cX6_top 57 = .ok (.aload_n 0, 1) := by decide +kernel
theorem dX6_top_58 : decode cX6_top 58 = .ok (.getfield 10, 3) := by decide +kernel
theorem dX6_top_61 : decode cX6_top 61 = .ok (.getfield 98, 3) := by decide +kernel
theorem dX6_top_64 : decode cX6_top 64 = .ok (.iload_n 1, 1) := by decide +kernel
theorem dX6_top_65 : decode cX6_top 65 = .ok (.iload_n 2, 1) := by decide +kernel
theorem dX6_top_66 : decode cX6_top 66 = .ok (.invokevirtual 84, 3) := by decide +kernel
theorem dX6_top_69 : decode cX6_top 69 = .ok (.istore 4, 2) := by decide +kernel
theorem dX6_top_71 : decode cX6_top 71 = .ok (.aload_n 0, 1) := by decide +kernel
theorem dX6_top_72 : decode cX6_top 72 = .ok (.getfield 10, 3) := by decide +kernel
theorem dX6_top_75 : decode cX6_top 75 = .ok (.getfield 98, 3) := by decide +kernel
theorem dX6_top_78 : decode cX6_top 78 = .ok (.iload_n 1, 1) := by decide +kernel
theorem dX6_top_79 : decode cX6_top 79 = .ok (.iload_n 2, 1) := by decide +kernel
theorem dX6_top_80 : decode cX6_top 80 = .ok (.iload_n 3, 1) := by decide +kernel
theorem dX6_top_81 : decode cX6_top 81 = .ok (.invokevirtual 90, 3) := by decide +kernel
theorem dX6_top_84 : decode cX6_top 84 = .ok (.iload 4, 2) := by decide +kernel
theorem dX6_top_86 : decode cX6_top 86 = .ok (.ireturn, 1) := by decide +kernel
def fX6_top (xjk : Int32) (xjc : Int32) (xjbf : Nat → Int32) (i1 : Int32) (i2 : Int32) (i3 : Int32) : Option (Nat ⊕ (Int32 × (Nat → Int32))) := (if i1 < 0 then some (.inl 1) else (if xjk ≤ i1 then some (.inl 1) else (if i2 < 0 then some (.inl 1) else (if i2 < xjc then ((fX6_isOperand i3).bind fun x_5 => (if x_5 = 0 then some (.inl 0) else ((fX4_get xjbf i1 i2).bind fun x_10 => ((fX4_set xjbf i1 i2 i3).bind fun x_14 => some (.inr (x_10, x_14)))))) else some (.inl 1)))))
abbrev hX6_top : Cond := .code yX6_top cX6_top 5 (some .int)
theorem mX6_top : yM yX6_top hX6_top 3 := ⟨u_689, u_57, by decide +kernel, by decide +kernel, by decide +kernel⟩
set_option maxHeartbeats 4000000 in
set_option maxRecDepth 100000 in
theorem kX6_top (l : Launch) (D : va_G) (cy : Nat → ClassId) (hl0 : l.stackTraces = false) (x : Nat) (xj : Nat) (xw : Nat) (xz : Nat) (xo : Nat) (xy : Nat) (xt : Nat) (xja : Nat) (xjb : Nat) (xjr : Int32) (xjk : Int32) (xjc : Int32) (xjg : Int32) (xjs : Int32) (xjbn : Nat) (xjbf : Nat → Int32) (i1 : Int32) (i2 : Int32) (i3 : Int32) {res : Nat ⊕ (Int32 × (Nat → Int32))} (hR : fX6_top xjk xjc xjbf i1 i2 i3 = some res) : YX l D cy yX6_top hX6_top 6 1 6 [.ref x, .int i1, .int i2, .int i3] [[(x, .inr (8, [.ref xj, .ref xw, .ref xz, .ref xo, .ref xy, .ref xt]))], [(xj, .inr (3, [.ref xja, .ref xjb, .int xjr, .int xjk, .int xjc, .int xjg, .int xjs]))], [(xjb, .inr (6, [.ref xjbn]))], [(xjbn, .inl (cy 1, 81, .inl xjbf))]] (fun v u => ∃ r, res = .inr r ∧ v = some (.int r.1) ∧ u = [[(x, .inr (8, [.ref xj, .ref xw, .ref xz, .ref xo, .ref xy, .ref xt]))], [(xj, .inr (3, [.ref xja, .ref xjb, .int xjr, .int xjk, .int xjc, .int xjg, .int xjs]))], [(xjb, .inr (6, [.ref xjbn]))], [(xjbn, .inl (cy 1, 81, .inl r.2))]]) (fun E u => ∃ r, res = .inl r ∧ E = yE r ∧ u = [[(x, .inr (8, [.ref xj, .ref xw, .ref xz, .ref xo, .ref xy, .ref xt]))], [(xj, .inr (3, [.ref xja, .ref xjb, .int xjr, .int xjk, .int xjc, .int xjg, .int xjs]))], [(xjb, .inr (6, [.ref xjbn]))], [(xjbn, .inl (cy 1, 81, .inl xjbf))]]) := by
  unfold fX6_top at hR
  refine YX.ofI (cc := cX6_top) (maxL := 5) (ret := (some .int)) hl0 (by decide +kernel) rfl (Nat.le_of_ble_eq_true rfl) [(0, .ref x), (1, .int i1), (2, .int i2), (3, .int i3)] rfl rfl (fun p e s m args below meth c A H0 Q C ret thr => ?_)
  refine xr_iload_n (n := 1) (j := 1) C dX6_top_0 rfl rfl ?_
  refine xr_if_lt (tgt := 30) (n := 4) C dX6_top_1 rfl rfl (fun c_1 => ?_) (fun c_1 => ?_)
  · replace hR := yf_t c_1 hR
    obtain rfl := Option.some.inj hR
    exact thr "java/lang/IndexOutOfBoundsException" "B has no such row or column" 69 96 73 yt_X6_96 ⟨_, rfl, rfl, rfl⟩ (Nat.le_of_ble_eq_true rfl) (Nat.le_of_ble_eq_true rfl) (Nat.le_of_ble_eq_true rfl) (Nat.le_of_ble_eq_true rfl) dX6_top_30 dX6_top_33 dX6_top_34 dX6_top_36 dX6_top_39
  · replace hR := yf_f c_1 hR
    refine xr_iload_n (n := 5) (j := 1) C dX6_top_4 rfl rfl ?_
    refine xr_aload_n (n := 6) (j := 0) C dX6_top_5 rfl rfl ?_
    refine xr_get (n := 9) C 0 rfl rfl 0 (by decide) in_X6 u_289 rfl (v := .ref xj) rfl dX6_top_6 rfl ?_
    refine xr_getN (n := 12) C 1 rfl rfl 3 (by decide) in_X1 RX6 (List.mem_of_getElem? (i := 5) rfl) rfl (v := .int xjk) rfl dX6_top_9 rfl ?_
    refine xr_icmp_ge (tgt := 30) (n := 15) C dX6_top_12 rfl rfl (fun c_2 => ?_) (fun c_2 => ?_)
    · replace hR := yf_t c_2 hR
      obtain rfl := Option.some.inj hR
      exact thr "java/lang/IndexOutOfBoundsException" "B has no such row or column" 69 96 73 yt_X6_96 ⟨_, rfl, rfl, rfl⟩ (Nat.le_of_ble_eq_true rfl) (Nat.le_of_ble_eq_true rfl) (Nat.le_of_ble_eq_true rfl) (Nat.le_of_ble_eq_true rfl) dX6_top_30 dX6_top_33 dX6_top_34 dX6_top_36 dX6_top_39
    · replace hR := yf_f c_2 hR
      refine xr_iload_n (n := 16) (j := 2) C dX6_top_15 rfl rfl ?_
      refine xr_if_lt (tgt := 30) (n := 19) C dX6_top_16 rfl rfl (fun c_3 => ?_) (fun c_3 => ?_)
      · replace hR := yf_t c_3 hR
        obtain rfl := Option.some.inj hR
        exact thr "java/lang/IndexOutOfBoundsException" "B has no such row or column" 69 96 73 yt_X6_96 ⟨_, rfl, rfl, rfl⟩ (Nat.le_of_ble_eq_true rfl) (Nat.le_of_ble_eq_true rfl) (Nat.le_of_ble_eq_true rfl) (Nat.le_of_ble_eq_true rfl) dX6_top_30 dX6_top_33 dX6_top_34 dX6_top_36 dX6_top_39
      · replace hR := yf_f c_3 hR
        refine xr_iload_n (n := 20) (j := 2) C dX6_top_19 rfl rfl ?_
        refine xr_aload_n (n := 21) (j := 0) C dX6_top_20 rfl rfl ?_
        refine xr_get (n := 24) C 0 rfl rfl 0 (by decide) in_X6 u_289 rfl (v := .ref xj) rfl dX6_top_21 rfl ?_
        refine xr_getN (n := 27) C 1 rfl rfl 4 (by decide) in_X1 RX6 (List.mem_of_getElem? (i := 6) rfl) rfl (v := .int xjc) rfl dX6_top_24 rfl ?_
        refine xr_icmp_lt (tgt := 40) (n := 30) C dX6_top_27 rfl rfl (fun c_4 => ?_) (fun c_4 => ?_)
        · replace hR := yf_t c_4 hR
          refine xr_iload_n (n := 41) (j := 3) C dX6_top_40 rfl rfl ?_
          obtain ⟨x_5, hx_5, hR⟩ := yf_b hR
          refine xr_callSp (n := 44) (As := [.int i3]) (rest := []) C (kX6_isOperand l D cy (i1 := i3) hx_5) mX6_isOperand u_675 u_676 4 [] [0, 1, 2, 3] rfl (by decide +kernel) rfl rfl rfl rfl (Nat.le_of_ble_eq_true rfl) (Nat.le_of_ble_eq_true rfl) (Nat.le_of_ble_eq_true rfl) (Nat.le_of_ble_eq_true rfl) (Nat.le_of_ble_eq_true rfl) dX6_top_41 rfl (fun _ _ hp => hp.2) (fun v_6 hp_8 => ?_)
          obtain ⟨rfl, -⟩ := hp_8
          refine xr_st (st' := [.int x_5]) rfl ?_
          refine xr_if_ne (tgt := 57) (n := 47) C dX6_top_44 rfl rfl (fun c_9 => ?_) (fun c_9 => ?_)
          · replace hR := yf_f c_9 hR
            refine xr_aload_n (n := 58) (j := 0) C dX6_top_57 rfl rfl ?_
            refine xr_get (n := 61) C 0 rfl rfl 0 (by decide) in_X6 u_289 rfl (v := .ref xj) rfl dX6_top_58 rfl ?_
            refine xr_getN (n := 64) C 1 rfl rfl 1 (by decide) in_X1 RX6 (List.mem_of_getElem? (i := 3) rfl) rfl (v := .ref xjb) rfl dX6_top_61 rfl ?_
            refine xr_iload_n (n := 65) (j := 1) C dX6_top_64 rfl rfl ?_
            refine xr_iload_n (n := 66) (j := 2) C dX6_top_65 rfl rfl ?_
            obtain ⟨x_10, hx_10, hR⟩ := yf_b hR
            refine xr_callVp (n := 69) (As := [.int i1, .int i2]) (rest := []) C (kX4_get l D cy (h := xjb) (hn := xjbn) (hf := xjbf) (row := i1) (col := i2) hx_10) mX4_get u_492 u_341 u_342 2 rfl rfl 4 [2, 3] [0, 1] rfl (by decide +kernel) rfl rfl rfl rfl (Nat.le_of_ble_eq_true rfl) (Nat.le_of_ble_eq_true rfl) (Nat.le_of_ble_eq_true rfl) (Nat.le_of_ble_eq_true rfl) (Nat.le_of_ble_eq_true rfl) dX6_top_66 rfl (fun _ _ hp => hp.2) (fun v_11 hp_13 => ?_)
            obtain ⟨rfl, -⟩ := hp_13
            refine xr_st (st' := [.int x_10]) rfl ?_
            refine xr_istore (n := 71) C [(4, .int x_10), (0, .ref x), (1, .int i1), (2, .int i2), (3, .int i3)] dX6_top_69 (by decide) rfl rfl ?_
            refine xr_aload_n (n := 72) (j := 1) C dX6_top_71 rfl rfl ?_
            refine xr_get (n := 75) C 0 rfl rfl 0 (by decide) in_X6 u_289 rfl (v := .ref xj) rfl dX6_top_72 rfl ?_
            refine xr_getN (n := 78) C 1 rfl rfl 1 (by decide) in_X1 RX6 (List.mem_of_getElem? (i := 3) rfl) rfl (v := .ref xjb) rfl dX6_top_75 rfl ?_
            refine xr_iload_n (n := 79) (j := 2) C dX6_top_78 rfl rfl ?_
            refine xr_iload_n (n := 80) (j := 3) C dX6_top_79 rfl rfl ?_
            refine xr_iload_n (n := 81) (j := 4) C dX6_top_80 rfl rfl ?_
            obtain ⟨x_14, hx_14, hR⟩ := yf_b hR
            refine xr_callV (n := 84) (As := [.int i1, .int i2, .int i3]) (rest := []) C (kX4_set l D cy (h := xjb) (hn := xjbn) (hf := xjbf) (row := i1) (col := i2) (num := i3) hx_14) mX4_set u_679 u_680 u_681 2 rfl rfl 4 [2, 3] [0, 1] rfl (by decide +kernel) rfl rfl rfl rfl (Nat.le_of_ble_eq_true rfl) (Nat.le_of_ble_eq_true rfl) (Nat.le_of_ble_eq_true rfl) (Nat.le_of_ble_eq_true rfl) (Nat.le_of_ble_eq_true rfl) dX6_top_81 rfl (fun v_15 u_16 hp_17 => ?_)
            obtain ⟨rfl, rfl⟩ := hp_17
            refine xr_perm C 4 [2, 3, 0, 1] [] [[(x, .inr (8, [.ref xj, .ref xw, .ref xz, .ref xo, .ref xy, .ref xt]))], [(xj, .inr (3, [.ref xja, .ref xjb, .int xjr, .int xjk, .int xjc, .int xjg, .int xjs]))], [(xjb, .inr (6, [.ref xjbn]))], [(xjbn, .inl (cy 1, 81, .inl x_14))]] rfl (by decide +kernel) rfl ?_
            refine xr_iload (n := 86) (j := 0) C dX6_top_84 rfl rfl ?_
            obtain rfl := Option.some.inj hR
            exact ret x_10 ⟨_, rfl, rfl, rfl⟩ (Nat.le_of_ble_eq_true rfl) (Nat.le_of_ble_eq_true rfl) dX6_top_86
          · replace hR := yf_t c_9 hR
            obtain rfl := Option.some.inj hR
            exact thr "java/lang/IllegalArgumentException" "an operand is -9 to 9" 47 78 51 yt_X6_78 ⟨_, rfl, rfl, rfl⟩ (Nat.le_of_ble_eq_true rfl) (Nat.le_of_ble_eq_true rfl) (Nat.le_of_ble_eq_true rfl) (Nat.le_of_ble_eq_true rfl) dX6_top_47 dX6_top_50 dX6_top_51 dX6_top_53 dX6_top_56
        · replace hR := yf_f c_4 hR
          obtain rfl := Option.some.inj hR
          exact thr "java/lang/IndexOutOfBoundsException" "B has no such row or column" 69 96 73 yt_X6_96 ⟨_, rfl, rfl, rfl⟩ (Nat.le_of_ble_eq_true rfl) (Nat.le_of_ble_eq_true rfl) (Nat.le_of_ble_eq_true rfl) (Nat.le_of_ble_eq_true rfl) dX6_top_30 dX6_top_33 dX6_top_34 dX6_top_36 dX6_top_39
theorem dX6_kind_0 : decode cX6_kind 0 = .ok (.iload_n 1, 1) := by decide +kernel
theorem dX6_kind_1 : decode cX6_kind 1 = .ok (.ifCond .lt 8, 3) := by decide +kernel
theorem dX6_kind_4 : decode cX6_kind 4 = .ok (.iload_n 1, 1) := by decide +kernel
theorem dX6_kind_5 : decode cX6_kind 5 = .ok (.iconst 2, 1) := by decide +kernel
theorem dX6_kind_6 : decode cX6_kind 6 = .ok (.if_icmp .le 13, 3) := by decide +kernel
theorem dX6_kind_9 : decode cX6_kind 9 = .ok (.new 47, 3) := by decide +kernel
theorem dX6_kind_12 : decode cX6_kind 12 = .ok (.dup, 1) := by decide +kernel
theorem dX6_kind_13 : decode cX6_kind 13 = .ok (.ldc 101, 2) := by decide +kernel
theorem dX6_kind_15 : decode cX6_kind 15 = .ok (.invokespecial 51, 3) := by decide +kernel
theorem dX6_kind_18 : decode cX6_kind 18 = .ok (.athrow, 1) := by decide +kernel
theorem dX6_kind_19 : decode cX6_kind 19 = .ok (.aload_n 0, 1) := by decide +kernel
theorem dX6_kind_20 : decode cX6_kind 20 = .ok (.getfield 10, 3) := by decide +kernel
theorem dX6_kind_23 : decode cX6_kind 23 = .ok (.getfield 103, 3) := by decide +kernel
theorem dX6_kind_26 : decode cX6_kind 26 = .ok (.istore_n 2, 1) := by decide +kernel
theorem dX6_kind_27 : decode cX6_kind 27 = .ok (.aload_n 0, 1) := by decide +kernel
theorem dX6_kind_28 : decode cX6_kind 28 = .ok (.getfield 10, 3) := by decide +kernel
theorem dX6_kind_31 : decode cX6_kind 31 = .ok (.iload_n 1, 1) := by decide +kernel
theorem dX6_kind_32 : decode cX6_kind 32 = .ok (.putfield 103, 3) := by decide +kernel
theorem dX6_kind_35 : decode cX6_kind 35 = .ok (.iload_n 1, 1) := by decide +kernel
theorem dX6_kind_36 : decode cX6_kind 36 = .ok (.ifCond .eq 11, 3) := by decide +kernel
theorem dX6_kind_39 : decode cX6_kind 39 = .ok (.aload_n 0, 1) := by decide +kernel
theorem dX6_kind_40 : decode cX6_kind 40 = .ok (.getfield 10, 3) := by decide +kernel
theorem dX6_kind_43 : decode cX6_kind 43 = .ok (.iconst 0, 1) := by decide +kernel
theorem dX6_kind_44 : decode cX6_kind 44 = .ok (.putfield 106, 3) := by decide +kernel
theorem dX6_kind_47 : decode cX6_kind 47 = .ok (.iload_n 2, 1) := by decide +kernel
theorem dX6_kind_48 : decode cX6_kind 48 = .ok (.ireturn, 1) := by decide +kernel
def fX6_kind (xjg : Int32) (xjs : Int32) (i1 : Int32) : Option (Nat ⊕ (Int32 × Int32 × Int32)) := (if i1 < 0 then some (.inl 0) else (if i1 ≤ 2 then (if i1 = 0 then some (.inr (xjg, i1, xjs)) else some (.inr (xjg, i1, 0))) else some (.inl 0)))
abbrev hX6_kind : Cond := .code yX6_kind cX6_kind 3 (some .int)
theorem mX6_kind : yM yX6_kind hX6_kind 1 := ⟨u_697, u_57, by decide +kernel, by decide +kernel, by decide +kernel⟩
set_option maxHeartbeats 4000000 in
set_option maxRecDepth 100000 in
theorem kX6_kind (l : Launch) (D : va_G) (cy : Nat → ClassId) (hl0 : l.stackTraces = false) (x : Nat) (xj : Nat) (xw : Nat) (xz : Nat) (xo : Nat) (xy : Nat) (xt : Nat) (xja : Nat) (xjb : Nat) (xjr : Int32) (xjk : Int32) (xjc : Int32) (xjg : Int32) (xjs : Int32) (i1 : Int32) {res : Nat ⊕ (Int32 × Int32 × Int32)} (hR : fX6_kind xjg xjs i1 = some res) : YX l D cy yX6_kind hX6_kind 6 1 6 [.ref x, .int i1] [[(x, .inr (8, [.ref xj, .ref xw, .ref xz, .ref xo, .ref xy, .ref xt]))], [(xj, .inr (3, [.ref xja, .ref xjb, .int xjr, .int xjk, .int xjc, .int xjg, .int xjs]))]] (fun v u => ∃ r, res = .inr r ∧ v = some (.int r.1) ∧ u = [[(x, .inr (8, [.ref xj, .ref xw, .ref xz, .ref xo, .ref xy, .ref xt]))], [(xj, .inr (3, [.ref xja, .ref xjb, .int xjr, .int xjk, .int xjc, .int r.2.1, .int r.2.2]))]]) (fun E u => ∃ r, res = .inl r ∧ E = yE r ∧ u = [[(x, .inr (8, [.ref xj, .ref xw, .ref xz, .ref xo, .ref xy, .ref xt]))], [(xj, .inr (3, [.ref xja, .ref xjb, .int xjr, .int xjk, .int xjc, .int xjg, .int xjs]))]]) := by
  unfold fX6_kind at hR
  refine YX.ofI (cc := cX6_kind) (maxL := 3) (ret := (some .int)) hl0 (by decide +kernel) rfl (Nat.le_of_ble_eq_true rfl) [(0, .ref x), (1, .int i1)] rfl rfl (fun p e s m args below meth c A H0 Q C ret thr => ?_)
  refine xr_iload_n (n := 1) (j := 1) C dX6_kind_0 rfl rfl ?_
  refine xr_if_lt (tgt := 9) (n := 4) C dX6_kind_1 rfl rfl (fun c_1 => ?_) (fun c_1 => ?_)
  · replace hR := yf_t c_1 hR
    obtain rfl := Option.some.inj hR
    exact thr "java/lang/IllegalArgumentException" "a kind is 0 to 2" 47 101 51 yt_X6_101 ⟨_, rfl, rfl, rfl⟩ (Nat.le_of_ble_eq_true rfl) (Nat.le_of_ble_eq_true rfl) (Nat.le_of_ble_eq_true rfl) (Nat.le_of_ble_eq_true rfl) dX6_kind_9 dX6_kind_12 dX6_kind_13 dX6_kind_15 dX6_kind_18
  · replace hR := yf_f c_1 hR
    refine xr_iload_n (n := 5) (j := 1) C dX6_kind_4 rfl rfl ?_
    refine xr_iconst (n := 6) (v := 2) C dX6_kind_5 rfl rfl ?_
    refine xr_icmp_le (tgt := 19) (n := 9) C dX6_kind_6 rfl rfl (fun c_2 => ?_) (fun c_2 => ?_)
    · replace hR := yf_t c_2 hR
      refine xr_aload_n (n := 20) (j := 0) C dX6_kind_19 rfl rfl ?_
      refine xr_get (n := 23) C 0 rfl rfl 0 (by decide) in_X6 u_289 rfl (v := .ref xj) rfl dX6_kind_20 rfl ?_
      refine xr_getN (n := 26) C 1 rfl rfl 5 (by decide) in_X1 RX6 (List.mem_of_getElem? (i := 7) rfl) rfl (v := .int xjg) rfl dX6_kind_23 rfl ?_
      refine xr_istore_n (n := 27) C [(2, .int xjg), (0, .ref x), (1, .int i1)] dX6_kind_26 (by decide) rfl rfl ?_
      refine xr_aload_n (n := 28) (j := 1) C dX6_kind_27 rfl rfl ?_
      refine xr_get (n := 31) C 0 rfl rfl 0 (by decide) in_X6 u_289 rfl (v := .ref xj) rfl dX6_kind_28 rfl ?_
      refine xr_iload_n (n := 32) (j := 2) C dX6_kind_31 rfl rfl ?_
      refine xr_putN (n := 35) C 1 rfl rfl 5 (by decide) in_X1 tyX1 tyX1_ok nmX1 RX6 (List.mem_of_getElem? (i := 7) rfl) rfl rfl rfl rfl (Nat.le_of_ble_eq_true rfl) [[(x, .inr (8, [.ref xj, .ref xw, .ref xz, .ref xo, .ref xy, .ref xt]))], [(xj, .inr (3, [.ref xja, .ref xjb, .int xjr, .int xjk, .int xjc, .int i1, .int xjs]))]] rfl rfl dX6_kind_32 ?_
      refine xr_iload_n (n := 36) (j := 2) C dX6_kind_35 rfl rfl ?_
      refine xr_if_eq (tgt := 47) (n := 39) C dX6_kind_36 rfl rfl (fun c_3 => ?_) (fun c_3 => ?_)
      · replace hR := yf_t c_3 hR
        refine xr_iload_n (n := 48) (j := 0) C dX6_kind_47 rfl rfl ?_
        obtain rfl := Option.some.inj hR
        exact ret xjg ⟨_, rfl, rfl, rfl⟩ (Nat.le_of_ble_eq_true rfl) (Nat.le_of_ble_eq_true rfl) dX6_kind_48
      · replace hR := yf_f c_3 hR
        refine xr_aload_n (n := 40) (j := 1) C dX6_kind_39 rfl rfl ?_
        refine xr_get (n := 43) C 0 rfl rfl 0 (by decide) in_X6 u_289 rfl (v := .ref xj) rfl dX6_kind_40 rfl ?_
        refine xr_iconst (n := 44) (v := 0) C dX6_kind_43 rfl rfl ?_
        refine xr_putN (n := 47) C 1 rfl rfl 6 (by decide) in_X1 tyX1 tyX1_ok nmX1 RX6 (List.mem_of_getElem? (i := 9) rfl) rfl rfl (by decide) (by decide) (Nat.le_of_ble_eq_true rfl) [[(x, .inr (8, [.ref xj, .ref xw, .ref xz, .ref xo, .ref xy, .ref xt]))], [(xj, .inr (3, [.ref xja, .ref xjb, .int xjr, .int xjk, .int xjc, .int i1, .int 0]))]] rfl rfl dX6_kind_44 ?_
        refine xr_iload_n (n := 48) (j := 0) C dX6_kind_47 rfl rfl ?_
        obtain rfl := Option.some.inj hR
        exact ret xjg ⟨_, rfl, rfl, rfl⟩ (Nat.le_of_ble_eq_true rfl) (Nat.le_of_ble_eq_true rfl) dX6_kind_48
    · replace hR := yf_f c_2 hR
      obtain rfl := Option.some.inj hR
      exact thr "java/lang/IllegalArgumentException" "a kind is 0 to 2" 47 101 51 yt_X6_101 ⟨_, rfl, rfl, rfl⟩ (Nat.le_of_ble_eq_true rfl) (Nat.le_of_ble_eq_true rfl) (Nat.le_of_ble_eq_true rfl) (Nat.le_of_ble_eq_true rfl) dX6_kind_9 dX6_kind_12 dX6_kind_13 dX6_kind_15 dX6_kind_18
theorem dX6_checked_0 : decode cX6_checked 0 = .ok (.iload_n 1, 1) := by decide +kernel
theorem dX6_checked_1 : decode cX6_checked 1 = .ok (.ifCond .eq 23, 3) := by decide +kernel
theorem dX6_checked_4 : decode cX6_checked 4 = .ok (.aload_n 0, 1) := by decide +kernel
theorem dX6_checked_5 : decode cX6_checked 5 = .ok (.getfield 10, 3) := by decide +kernel
theorem dX6_checked_8 : decode cX6_checked 8 = .ok (.getfield 103, 3) := by decide +kernel
theorem dX6_checked_11 : decode cX6_checked 11 = .ok (.ifCond .eq 13, 3) := by decide +kernel
theorem dX6_checked_14 : decode cX6_checked 14 = .ok (.new 110, 3) := by decide +kernel
theorem dX6_checked_17 : decode cX6_checked 17 = .ok (.dup, 1) := by decide +kernel
theorem dX6_checked_18 : decode cX6_checked 18 = .ok (.ldc 112, 2) := by decide +kernel
theorem dX6_checked_20 : decode cX6_checked 20 = .ok (.invokespecial 114, 3) := by decide +kernel
theorem dX6_checked_23 : decode cX6_checked 23 = .ok (.athrow, 1) := by decide +kernel
theorem dX6_checked_24 : decode cX6_checked 24 = .ok (.aload_n 0, 1) := by decide +kernel
theorem dX6_checked_25 : decode cX6_checked 25 = .ok (.getfield 10, 3) := by decide +kernel
theorem dX6_checked_28 : decode cX6_checked 28 = .ok (.getfield 106, 3) := by decide +kernel
theorem dX6_checked_31 : decode cX6_checked 31 = .ok (.istore_n 2, 1) := by decide +kernel
theorem dX6_checked_32 : decode cX6_checked 32 = .ok (.aload_n 0, 1) := by decide +kernel
theorem dX6_checked_33 : decode cX6_checked 33 = .ok (.getfield 10, 3) := by decide +kernel
theorem dX6_checked_36 : decode cX6_checked 36 = .ok (.iload_n 1, 1) := by decide +kernel
theorem dX6_checked_37 : decode cX6_checked 37 = .ok (.putfield 106, 3) := by decide +kernel
theorem dX6_checked_40 : decode cX6_checked 40 = .ok (.iload_n 2, 1) := by decide +kernel
theorem dX6_checked_41 : decode cX6_checked 41 = .ok (.ireturn, 1) := by decide +kernel
def fX6_checked (xjg : Int32) (xjs : Int32) (i1 : Int32) : Option (Nat ⊕ (Int32 × Int32)) := (if i1 = 0 then (if i1 = 0 ∨ i1 = 1 then (if xjs = 0 ∨ xjs = 1 then some (.inr (xjs, i1)) else none) else none) else (if xjg = 0 then (if i1 = 0 ∨ i1 = 1 then (if xjs = 0 ∨ xjs = 1 then some (.inr (xjs, i1)) else none) else none) else some (.inl 2)))
abbrev hX6_checked : Cond := .code yX6_checked cX6_checked 3 (some .boolean)
theorem mX6_checked : yM yX6_checked hX6_checked 1 := ⟨u_706, u_57, by decide +kernel, by decide +kernel, by decide +kernel⟩
set_option maxHeartbeats 4000000 in
set_option maxRecDepth 100000 in
theorem kX6_checked (l : Launch) (D : va_G) (cy : Nat → ClassId) (hl0 : l.stackTraces = false) (x : Nat) (xj : Nat) (xw : Nat) (xz : Nat) (xo : Nat) (xy : Nat) (xt : Nat) (xja : Nat) (xjb : Nat) (xjr : Int32) (xjk : Int32) (xjc : Int32) (xjg : Int32) (xjs : Int32) (i1 : Int32) {res : Nat ⊕ (Int32 × Int32)} (hR : fX6_checked xjg xjs i1 = some res) : YX l D cy yX6_checked hX6_checked 6 1 6 [.ref x, .int i1] [[(x, .inr (8, [.ref xj, .ref xw, .ref xz, .ref xo, .ref xy, .ref xt]))], [(xj, .inr (3, [.ref xja, .ref xjb, .int xjr, .int xjk, .int xjc, .int xjg, .int xjs]))]] (fun v u => ∃ r, res = .inr r ∧ v = some (.int r.1) ∧ u = [[(x, .inr (8, [.ref xj, .ref xw, .ref xz, .ref xo, .ref xy, .ref xt]))], [(xj, .inr (3, [.ref xja, .ref xjb, .int xjr, .int xjk, .int xjc, .int xjg, .int r.2]))]]) (fun E u => ∃ r, res = .inl r ∧ E = yE r ∧ u = [[(x, .inr (8, [.ref xj, .ref xw, .ref xz, .ref xo, .ref xy, .ref xt]))], [(xj, .inr (3, [.ref xja, .ref xjb, .int xjr, .int xjk, .int xjc, .int xjg, .int xjs]))]]) := by
  unfold fX6_checked at hR
  refine YX.ofZ (cc := cX6_checked) (maxL := 3) (ret := (some .boolean)) hl0 (by decide +kernel) rfl (Nat.le_of_ble_eq_true rfl) [(0, .ref x), (1, .int i1)] rfl .boolean rfl (fun p e s m args below meth c A H0 Q C ret thr => ?_)
  refine xr_iload_n (n := 1) (j := 1) C dX6_checked_0 rfl rfl ?_
  refine xr_if_eq (tgt := 24) (n := 4) C dX6_checked_1 rfl rfl (fun c_1 => ?_) (fun c_1 => ?_)
  · replace hR := yf_t c_1 hR
    refine xr_aload_n (n := 25) (j := 0) C dX6_checked_24 rfl rfl ?_
    refine xr_get (n := 28) C 0 rfl rfl 0 (by decide) in_X6 u_289 rfl (v := .ref xj) rfl dX6_checked_25 rfl ?_
    refine xr_getN (n := 31) C 1 rfl rfl 6 (by decide) in_X1 RX6 (List.mem_of_getElem? (i := 9) rfl) rfl (v := .int xjs) rfl dX6_checked_28 rfl ?_
    refine xr_istore_n (n := 32) C [(2, .int xjs), (0, .ref x), (1, .int i1)] dX6_checked_31 (by decide) rfl rfl ?_
    refine xr_aload_n (n := 33) (j := 1) C dX6_checked_32 rfl rfl ?_
    refine xr_get (n := 36) C 0 rfl rfl 0 (by decide) in_X6 u_289 rfl (v := .ref xj) rfl dX6_checked_33 rfl ?_
    refine xr_iload_n (n := 37) (j := 2) C dX6_checked_36 rfl rfl ?_
    obtain ⟨g_2, hR⟩ := yf_g hR
    refine xr_putN (n := 40) C 1 rfl rfl 6 (by decide) in_X1 tyX1 tyX1_ok nmX1 RX6 (List.mem_of_getElem? (i := 9) rfl) rfl rfl (ynz_f g_2) (ynz_n g_2) (Nat.le_of_ble_eq_true rfl) [[(x, .inr (8, [.ref xj, .ref xw, .ref xz, .ref xo, .ref xy, .ref xt]))], [(xj, .inr (3, [.ref xja, .ref xjb, .int xjr, .int xjk, .int xjc, .int xjg, .int i1]))]] rfl rfl dX6_checked_37 ?_
    refine xr_iload_n (n := 41) (j := 0) C dX6_checked_40 rfl rfl ?_
    obtain ⟨g_3, hR⟩ := yf_g hR
    obtain rfl := Option.some.inj hR
    exact ret xjs (ynz_n g_3) ⟨_, rfl, rfl, rfl⟩ (Nat.le_of_ble_eq_true rfl) (Nat.le_of_ble_eq_true rfl) dX6_checked_41
  · replace hR := yf_f c_1 hR
    refine xr_aload_n (n := 5) (j := 0) C dX6_checked_4 rfl rfl ?_
    refine xr_get (n := 8) C 0 rfl rfl 0 (by decide) in_X6 u_289 rfl (v := .ref xj) rfl dX6_checked_5 rfl ?_
    refine xr_getN (n := 11) C 1 rfl rfl 5 (by decide) in_X1 RX6 (List.mem_of_getElem? (i := 7) rfl) rfl (v := .int xjg) rfl dX6_checked_8 rfl ?_
    refine xr_if_eq (tgt := 24) (n := 14) C dX6_checked_11 rfl rfl (fun c_4 => ?_) (fun c_4 => ?_)
    · replace hR := yf_t c_4 hR
      refine xr_aload_n (n := 25) (j := 0) C dX6_checked_24 rfl rfl ?_
      refine xr_get (n := 28) C 0 rfl rfl 0 (by decide) in_X6 u_289 rfl (v := .ref xj) rfl dX6_checked_25 rfl ?_
      refine xr_getN (n := 31) C 1 rfl rfl 6 (by decide) in_X1 RX6 (List.mem_of_getElem? (i := 9) rfl) rfl (v := .int xjs) rfl dX6_checked_28 rfl ?_
      refine xr_istore_n (n := 32) C [(2, .int xjs), (0, .ref x), (1, .int i1)] dX6_checked_31 (by decide) rfl rfl ?_
      refine xr_aload_n (n := 33) (j := 1) C dX6_checked_32 rfl rfl ?_
      refine xr_get (n := 36) C 0 rfl rfl 0 (by decide) in_X6 u_289 rfl (v := .ref xj) rfl dX6_checked_33 rfl ?_
      refine xr_iload_n (n := 37) (j := 2) C dX6_checked_36 rfl rfl ?_
      obtain ⟨g_5, hR⟩ := yf_g hR
      refine xr_putN (n := 40) C 1 rfl rfl 6 (by decide) in_X1 tyX1 tyX1_ok nmX1 RX6 (List.mem_of_getElem? (i := 9) rfl) rfl rfl (ynz_f g_5) (ynz_n g_5) (Nat.le_of_ble_eq_true rfl) [[(x, .inr (8, [.ref xj, .ref xw, .ref xz, .ref xo, .ref xy, .ref xt]))], [(xj, .inr (3, [.ref xja, .ref xjb, .int xjr, .int xjk, .int xjc, .int xjg, .int i1]))]] rfl rfl dX6_checked_37 ?_
      refine xr_iload_n (n := 41) (j := 0) C dX6_checked_40 rfl rfl ?_
      obtain ⟨g_6, hR⟩ := yf_g hR
      obtain rfl := Option.some.inj hR
      exact ret xjs (ynz_n g_6) ⟨_, rfl, rfl, rfl⟩ (Nat.le_of_ble_eq_true rfl) (Nat.le_of_ble_eq_true rfl) dX6_checked_41
    · replace hR := yf_f c_4 hR
      obtain rfl := Option.some.inj hR
      exact thr "java/lang/IllegalStateException" "only sums of products can be checked" 110 112 114 yt_X6_112 ⟨_, rfl, rfl, rfl⟩ (Nat.le_of_ble_eq_true rfl) (Nat.le_of_ble_eq_true rfl) (Nat.le_of_ble_eq_true rfl) (Nat.le_of_ble_eq_true rfl) dX6_checked_14 dX6_checked_17 dX6_checked_18 dX6_checked_20 dX6_checked_23
theorem dX6_broken_0 : decode cX6_broken 0 = .ok (.iload_n 1, 1) := by decide +kernel
theorem dX6_broken_1 : decode cX6_broken 1 = .ok (.iload_n 2, 1) := by decide +kernel
theorem dX6_broken_2 : decode cX6_broken 2 = .ok (.invokestatic 115, 3) := by decide +kernel
theorem dX6_broken_5 : decode cX6_broken 5 = .ok (.ifCond .ne 13, 3) := by decide +kernel
theorem dX6_broken_8 : decode cX6_broken 8 = .ok (.new 69, 3) := by decide +kernel
theorem dX6_broken_11 : decode cX6_broken 11 = .ok (.dup, 1) := by decide +kernel
theorem dX6_broken_12 : decode cX6_broken 12 = .ok (.ldc 119, 2) := by decide +kernel
theorem dX6_broken_14 : decode cX6_broken 14 = .ok (.invokespecial 73, 3) := by decide +kernel
theorem dX6_broken_17 : decode cX6_broken 17 = .ok (.athrow, 1) := by decide +kernel
theorem dX6_broken_18 : decode cX6_broken 18 = .ok (.aload_n 0, 1) := by decide +kernel
theorem dX6_broken_19 : decode cX6_broken 19 = .ok (.getfield 19, 3) := by decide +kernel
theorem dX6_broken_22 : decode cX6_broken 22 = .ok (.iload_n 1, 1) := by decide +kernel
theorem dX6_broken_23 : decode cX6_broken 23 = .ok (.iload_n 2, 1) := by decide +kernel
theorem dX6_broken_24 : decode cX6_broken 24 = .ok (.iload_n 3, 1) := by decide +kernel
theorem dX6_broken_25 : decode cX6_broken 25 = .ok (.invokevirtual 121, 3) := by decide +kernel
theorem dX6_broken_28 : decode cX6_broken 28 = .ok (.aload_n 0, 1) := by decide +kernel
theorem dX6_broken_29 : decode cX6_broken 29 = .ok (.getfield 19, 3) := by decide +kernel
theorem dX6_broken_32 : decode cX6_broken 32 = .ok (.getfield 125, 3) := by decide +kernel
theorem dX6_broken_35 : decode cX6_broken 35 = .ok (.invokestatic 128, 3) := by decide +kernel
theorem dX6_broken_38 : decode cX6_broken 38 = .ok (.ireturn, 1) := by decide +kernel
def fX6_broken (xwb : Int32) (xwk : Int32) (i1 : Int32) (i2 : Int32) (isb : Int32) : Option (Nat ⊕ (Int32 × Int32 × Int32)) := ((fX6_isOnMesh i1 i2).bind fun x_1 => (if x_1 = 0 then some (.inl 1) else ((fX0_mark xwb xwk i1 i2 isb).bind fun x_6 => ((fJ6_bitCount_0f7a4 x_6.1).bind fun x_10 => some (.inr (x_10, x_6.1, x_6.2))))))
abbrev hX6_broken : Cond := .code yX6_broken cX6_broken 4 (some .int)
theorem mX6_broken : yM yX6_broken hX6_broken 3 := ⟨u_729, u_57, by decide +kernel, by decide +kernel, by decide +kernel⟩
set_option maxHeartbeats 4000000 in
set_option maxRecDepth 100000 in
theorem kX6_broken (l : Launch) (D : va_G) (cy : Nat → ClassId) (hl0 : l.stackTraces = false) (x : Nat) (xj : Nat) (xw : Nat) (xz : Nat) (xo : Nat) (xy : Nat) (xt : Nat) (xwu : Nat) (xwm : Nat) (xwb : Int32) (xwk : Int32) (i1 : Int32) (i2 : Int32) (isb : Int32) {res : Nat ⊕ (Int32 × Int32 × Int32)} (hR : fX6_broken xwb xwk i1 i2 isb = some res) : YX l D cy yX6_broken hX6_broken 6 1 6 [.ref x, .int i1, .int i2, .int isb] [[(x, .inr (8, [.ref xj, .ref xw, .ref xz, .ref xo, .ref xy, .ref xt]))], [(xw, .inr (2, [.ref xwu, .ref xwm, .int xwb, .int xwk]))]] (fun v u => ∃ r, res = .inr r ∧ v = some (.int r.1) ∧ u = [[(x, .inr (8, [.ref xj, .ref xw, .ref xz, .ref xo, .ref xy, .ref xt]))], [(xw, .inr (2, [.ref xwu, .ref xwm, .int r.2.1, .int r.2.2]))]]) (fun E u => ∃ r, res = .inl r ∧ E = yE r ∧ u = [[(x, .inr (8, [.ref xj, .ref xw, .ref xz, .ref xo, .ref xy, .ref xt]))], [(xw, .inr (2, [.ref xwu, .ref xwm, .int xwb, .int xwk]))]]) := by
  unfold fX6_broken at hR
  refine YX.ofI (cc := cX6_broken) (maxL := 4) (ret := (some .int)) hl0 (by decide +kernel) rfl (Nat.le_of_ble_eq_true rfl) [(0, .ref x), (1, .int i1), (2, .int i2), (3, .int isb)] rfl rfl (fun p e s m args below meth c A H0 Q C ret thr => ?_)
  refine xr_iload_n (n := 1) (j := 1) C dX6_broken_0 rfl rfl ?_
  refine xr_iload_n (n := 2) (j := 2) C dX6_broken_1 rfl rfl ?_
  obtain ⟨x_1, hx_1, hR⟩ := yf_b hR
  refine xr_callSp (n := 5) (As := [.int i1, .int i2]) (rest := []) C (kX6_isOnMesh l D cy (i1 := i1) (i2 := i2) hx_1) mX6_isOnMesh u_730 u_731 2 [] [0, 1] rfl (by decide +kernel) rfl rfl rfl rfl (Nat.le_of_ble_eq_true rfl) (Nat.le_of_ble_eq_true rfl) (Nat.le_of_ble_eq_true rfl) (Nat.le_of_ble_eq_true rfl) (Nat.le_of_ble_eq_true rfl) dX6_broken_2 rfl (fun _ _ hp => hp.2) (fun v_2 hp_4 => ?_)
  obtain ⟨rfl, -⟩ := hp_4
  refine xr_st (st' := [.int x_1]) rfl ?_
  refine xr_if_ne (tgt := 18) (n := 8) C dX6_broken_5 rfl rfl (fun c_5 => ?_) (fun c_5 => ?_)
  · replace hR := yf_f c_5 hR
    refine xr_aload_n (n := 19) (j := 0) C dX6_broken_18 rfl rfl ?_
    refine xr_get (n := 22) C 0 rfl rfl 1 (by decide) in_X6 u_290 rfl (v := .ref xw) rfl dX6_broken_19 rfl ?_
    refine xr_iload_n (n := 23) (j := 1) C dX6_broken_22 rfl rfl ?_
    refine xr_iload_n (n := 24) (j := 2) C dX6_broken_23 rfl rfl ?_
    refine xr_iload_n (n := 25) (j := 3) C dX6_broken_24 rfl rfl ?_
    obtain ⟨x_6, hx_6, hR⟩ := yf_b hR
    refine xr_callV (n := 28) (As := [.int i1, .int i2, .int isb]) (rest := []) C (kX0_mark l D cy (w := xw) (wu := xwu) (wm := xwm) (wb := xwb) (wk := xwk) (i1 := i1) (i2 := i2) (isb := isb) hx_6) mX0_mark u_734 u_735 u_736 1 rfl rfl 2 [1] [0] rfl (by decide +kernel) rfl rfl rfl rfl (Nat.le_of_ble_eq_true rfl) (Nat.le_of_ble_eq_true rfl) (Nat.le_of_ble_eq_true rfl) (Nat.le_of_ble_eq_true rfl) (Nat.le_of_ble_eq_true rfl) dX6_broken_25 rfl (fun v_7 u_8 hp_9 => ?_)
    obtain ⟨rfl, rfl⟩ := hp_9
    refine xr_perm C 2 [1, 0] [] [[(x, .inr (8, [.ref xj, .ref xw, .ref xz, .ref xo, .ref xy, .ref xt]))], [(xw, .inr (2, [.ref xwu, .ref xwm, .int x_6.1, .int x_6.2]))]] rfl (by decide +kernel) rfl ?_
    refine xr_aload_n (n := 29) (j := 0) C dX6_broken_28 rfl rfl ?_
    refine xr_get (n := 32) C 0 rfl rfl 1 (by decide) in_X6 u_290 rfl (v := .ref xw) rfl dX6_broken_29 rfl ?_
    refine xr_getN (n := 35) C 1 rfl rfl 2 (by decide) in_X0 RX6 (List.mem_of_getElem? (i := 15) rfl) rfl (v := .int x_6.1) rfl dX6_broken_32 rfl ?_
    obtain ⟨x_10, hx_10, hR⟩ := yf_b hR
    refine xr_callSp (n := 38) (As := [.int x_6.1]) (rest := []) C (kJ6_bitCount_0f7a4 l D cy (i1 := x_6.1) hx_10) mJ6_bitCount_0f7a4 u_467 u_349 2 [] [0, 1] rfl (by decide +kernel) rfl rfl rfl rfl (Nat.le_of_ble_eq_true rfl) (Nat.le_of_ble_eq_true rfl) (Nat.le_of_ble_eq_true rfl) (Nat.le_of_ble_eq_true rfl) (Nat.le_of_ble_eq_true rfl) dX6_broken_35 rfl (fun _ _ hp => hp.2) (fun v_11 hp_13 => ?_)
    obtain ⟨rfl, -⟩ := hp_13
    refine xr_st (st' := [.int x_10]) rfl ?_
    obtain rfl := Option.some.inj hR
    exact ret x_10 ⟨_, rfl, rfl, rfl⟩ (Nat.le_of_ble_eq_true rfl) (Nat.le_of_ble_eq_true rfl) dX6_broken_38
  · replace hR := yf_t c_5 hR
    obtain rfl := Option.some.inj hR
    exact thr "java/lang/IndexOutOfBoundsException" "the mesh has no such cell" 69 119 73 yt_X6_119 ⟨_, rfl, rfl, rfl⟩ (Nat.le_of_ble_eq_true rfl) (Nat.le_of_ble_eq_true rfl) (Nat.le_of_ble_eq_true rfl) (Nat.le_of_ble_eq_true rfl) dX6_broken_8 dX6_broken_11 dX6_broken_12 dX6_broken_14 dX6_broken_17
theorem dX6_test_0 : decode cX6_test 0 = .ok (.aload_n 0, 1) := by decide +kernel
theorem dX6_test_1 : decode cX6_test 1 = .ok (.getfield 33, 3) := by decide +kernel
theorem dX6_test_4 : decode cX6_test 4 = .ok (.invokevirtual 134, 3) := by decide +kernel
theorem dX6_test_7 : decode cX6_test 7 = .ok (.ifCond .eq 13, 3) := by decide +kernel
theorem dX6_test_10 : decode cX6_test 10 = .ok (.new 110, 3) := by decide +kernel
theorem dX6_test_13 : decode cX6_test 13 = .ok (.dup, 1) := by decide +kernel
theorem dX6_test_14 : decode cX6_test 14 = .ok (.ldc 138, 2) := by decide +kernel
theorem dX6_test_16 : decode cX6_test 16 = .ok (.invokespecial 114, 3) := by decide +kernel
theorem dX6_test_19 : decode cX6_test 19 = .ok (.athrow, 1) := by decide +kernel
theorem dX6_test_20 : decode cX6_test 20 = .ok (.aload_n 0, 1) := by decide +kernel
theorem dX6_test_21 : decode cX6_test 21 = .ok (.getfield 19, 3) := by decide +kernel
theorem dX6_test_24 : decode cX6_test 24 = .ok (.invokevirtual 140, 3) := by decide +kernel
theorem dX6_test_27 : decode cX6_test 27 = .ok (.ireturn, 1) := by decide +kernel
def fX6_test (xwb : Int32) (xwk : Int32) (xobl : Int32) : Option (Nat ⊕ (Int32 × Int32)) := ((fX5_runs xobl).bind fun x_1 => (if x_1 = 0 then ((fX0_findBroken xwb xwk).bind fun x_6 => some (.inr (x_6.1, x_6.2))) else some (.inl 2)))
abbrev hX6_test : Cond := .code yX6_test cX6_test 1 (some .int)
theorem mX6_test : yM yX6_test hX6_test 0 := ⟨u_744, u_57, by decide +kernel, by decide +kernel, by decide +kernel⟩
set_option maxHeartbeats 4000000 in
set_option maxRecDepth 100000 in
theorem kX6_test (l : Launch) (D : va_G) (cy : Nat → ClassId) (hl0 : l.stackTraces = false) (x : Nat) (xj : Nat) (xw : Nat) (xz : Nat) (xo : Nat) (xy : Nat) (xt : Nat) (xwu : Nat) (xwm : Nat) (xwb : Int32) (xwk : Int32) (xoj : Nat) (xoy : Nat) (xosk : Int32) (xoti : Int32) (xofr : Int32) (xofc : Int32) (xobt : Int32) (xobl : Int32) (xobe : Int32) (xose : Int32) (xotk : Int32) {res : Nat ⊕ (Int32 × Int32)} (hR : fX6_test xwb xwk xobl = some res) : YX l D cy yX6_test hX6_test 6 1 6 [.ref x] [[(x, .inr (8, [.ref xj, .ref xw, .ref xz, .ref xo, .ref xy, .ref xt]))], [(xw, .inr (2, [.ref xwu, .ref xwm, .int xwb, .int xwk]))], [(xo, .inr (7, [.ref xoj, .ref xoy, .int xosk, .int xoti, .int xofr, .int xofc, .int xobt, .int xobl, .int xobe, .int xose, .int xotk]))]] (fun v u => ∃ r, res = .inr r ∧ v = some (.int r.1) ∧ u = [[(x, .inr (8, [.ref xj, .ref xw, .ref xz, .ref xo, .ref xy, .ref xt]))], [(xw, .inr (2, [.ref xwu, .ref xwm, .int xwb, .int r.2]))], [(xo, .inr (7, [.ref xoj, .ref xoy, .int xosk, .int xoti, .int xofr, .int xofc, .int xobt, .int xobl, .int xobe, .int xose, .int xotk]))]]) (fun E u => ∃ r, res = .inl r ∧ E = yE r ∧ u = [[(x, .inr (8, [.ref xj, .ref xw, .ref xz, .ref xo, .ref xy, .ref xt]))], [(xw, .inr (2, [.ref xwu, .ref xwm, .int xwb, .int xwk]))], [(xo, .inr (7, [.ref xoj, .ref xoy, .int xosk, .int xoti, .int xofr, .int xofc, .int xobt, .int xobl, .int xobe, .int xose, .int xotk]))]]) := by
  unfold fX6_test at hR
  refine YX.ofI (cc := cX6_test) (maxL := 1) (ret := (some .int)) hl0 (by decide +kernel) rfl (Nat.le_of_ble_eq_true rfl) [(0, .ref x)] rfl rfl (fun p e s m args below meth c A H0 Q C ret thr => ?_)
  refine xr_aload_n (n := 1) (j := 0) C dX6_test_0 rfl rfl ?_
  refine xr_get (n := 4) C 0 rfl rfl 3 (by decide) in_X6 u_292 rfl (v := .ref xo) rfl dX6_test_1 rfl ?_
  obtain ⟨x_1, hx_1, hR⟩ := yf_b hR
  refine xr_callVp (n := 7) (As := []) (rest := []) C (kX5_runs l D cy (o := xo) (oj := xoj) (oy := xoy) (osk := xosk) (oti := xoti) (ofr := xofr) (ofc := xofc) (obt := xobt) (obl := xobl) (obe := xobe) (ose := xose) (otk := xotk) hx_1) mX5_runs u_468 u_430 u_431 2 rfl rfl 3 [2] [0, 1] rfl (by decide +kernel) rfl rfl rfl rfl (Nat.le_of_ble_eq_true rfl) (Nat.le_of_ble_eq_true rfl) (Nat.le_of_ble_eq_true rfl) (Nat.le_of_ble_eq_true rfl) (Nat.le_of_ble_eq_true rfl) dX6_test_4 rfl (fun _ _ hp => hp.2) (fun v_2 hp_4 => ?_)
  obtain ⟨rfl, -⟩ := hp_4
  refine xr_st (st' := [.int x_1]) rfl ?_
  refine xr_if_eq (tgt := 20) (n := 10) C dX6_test_7 rfl rfl (fun c_5 => ?_) (fun c_5 => ?_)
  · replace hR := yf_t c_5 hR
    refine xr_aload_n (n := 21) (j := 0) C dX6_test_20 rfl rfl ?_
    refine xr_get (n := 24) C 0 rfl rfl 1 (by decide) in_X6 u_290 rfl (v := .ref xw) rfl dX6_test_21 rfl ?_
    obtain ⟨x_6, hx_6, hR⟩ := yf_b hR
    refine xr_callV (n := 27) (As := []) (rest := []) C (kX0_findBroken l D cy (w := xw) (wu := xwu) (wm := xwm) (wb := xwb) (wk := xwk) hx_6) mX0_findBroken u_746 u_747 u_748 1 rfl rfl 3 [1] [0, 2] rfl (by decide +kernel) rfl rfl rfl rfl (Nat.le_of_ble_eq_true rfl) (Nat.le_of_ble_eq_true rfl) (Nat.le_of_ble_eq_true rfl) (Nat.le_of_ble_eq_true rfl) (Nat.le_of_ble_eq_true rfl) dX6_test_24 rfl (fun v_7 u_8 hp_9 => ?_)
    obtain ⟨rfl, rfl⟩ := hp_9
    refine xr_perm C 3 [1, 0, 2] [] [[(x, .inr (8, [.ref xj, .ref xw, .ref xz, .ref xo, .ref xy, .ref xt]))], [(xw, .inr (2, [.ref xwu, .ref xwm, .int xwb, .int x_6.2]))], [(xo, .inr (7, [.ref xoj, .ref xoy, .int xosk, .int xoti, .int xofr, .int xofc, .int xobt, .int xobl, .int xobe, .int xose, .int xotk]))]] rfl (by decide +kernel) rfl ?_
    refine xr_st (st' := [.int x_6.1]) rfl ?_
    obtain rfl := Option.some.inj hR
    exact ret x_6.1 ⟨_, rfl, rfl, rfl⟩ (Nat.le_of_ble_eq_true rfl) (Nat.le_of_ble_eq_true rfl) dX6_test_27
  · replace hR := yf_f c_5 hR
    obtain rfl := Option.some.inj hR
    exact thr "java/lang/IllegalStateException" "a work runs" 110 138 114 yt_X6_138 ⟨_, rfl, rfl, rfl⟩ (Nat.le_of_ble_eq_true rfl) (Nat.le_of_ble_eq_true rfl) (Nat.le_of_ble_eq_true rfl) (Nat.le_of_ble_eq_true rfl) dX6_test_10 dX6_test_13 dX6_test_14 dX6_test_16 dX6_test_19
theorem dX6_beatsOn_0 : decode cX6_beatsOn 0 = .ok (.aload_n 0, 1) := by decide +kernel
theorem dX6_beatsOn_1 : decode cX6_beatsOn 1 = .ok (.getfield 19, 3) := by decide +kernel
theorem dX6_beatsOn_4 : decode cX6_beatsOn 4 = .ok (.iload_n 1, 1) := by decide +kernel
theorem dX6_beatsOn_5 : decode cX6_beatsOn 5 = .ok (.iload_n 2, 1) := by decide +kernel
theorem dX6_beatsOn_6 : decode cX6_beatsOn 6 = .ok (.invokevirtual 332, 3) := by decide +kernel
theorem dX6_beatsOn_9 : decode cX6_beatsOn 9 = .ok (.ifCond .eq 5, 3) := by decide +kernel
theorem dX6_beatsOn_12 : decode cX6_beatsOn 12 = .ok (.iconst (-1), 1) := by decide +kernel
theorem dX6_beatsOn_13 : decode cX6_beatsOn 13 = .ok (.ireturn, 1) := by decide +kernel
theorem dX6_beatsOn_14 : decode cX6_beatsOn 14 = .ok (.aload_n 0, 1) := by decide +kernel
theorem dX6_beatsOn_15 : decode cX6_beatsOn 15 = .ok (.getfield 44, 3) := by decide +kernel
theorem dX6_beatsOn_18 : decode cX6_beatsOn 18 = .ok (.iload_n 1, 1) := by decide +kernel
theorem dX6_beatsOn_19 : decode cX6_beatsOn 19 = .ok (.iload_n 2, 1) := by decide +kernel
theorem dX6_beatsOn_20 : decode cX6_beatsOn 20 = .ok (.invokevirtual 318, 3) := by decide +kernel
theorem dX6_beatsOn_23 : decode cX6_beatsOn 23 = .ok (.aload_n 0, 1) := by decide +kernel
theorem dX6_beatsOn_24 : decode cX6_beatsOn 24 = .ok (.getfield 44, 3) := by decide +kernel
theorem dX6_beatsOn_27 : decode cX6_beatsOn 27 = .ok (.getfield 304, 3) := by decide +kernel
theorem dX6_beatsOn_30 : decode cX6_beatsOn 30 = .ok (.ireturn, 1) := by decide +kernel
def fX6_beatsOn (xwk : Int32) (xt0 : Int32) (xt1 : Int32) (xt2 : Int32) (xt3 : Int32) (xt4 : Int32) (xt5 : Int32) (xt6 : Int32) (xt7 : Int32) (xt8 : Int32) (xt9 : Int32) (i1 : Int32) (i2 : Int32) : Option (Int32 × Int32 × Int32 × Int32 × Int32 × Int32 × Int32 × Int32) := ((fX0_crossKnown xwk i1 i2).bind fun x_1 => (if x_1 = 0 then ((fX2_lay xt0 xt1 xt2 i1 i2).bind fun x_6 => some (x_6.2.2.2.2.2.2, x_6.1, x_6.2.1, x_6.2.2.1, x_6.2.2.2.1, x_6.2.2.2.2.1, x_6.2.2.2.2.2.1, x_6.2.2.2.2.2.2)) else some (-1, xt3, xt4, xt5, xt6, xt7, xt8, xt9)))
abbrev hX6_beatsOn : Cond := .code yX6_beatsOn cX6_beatsOn 3 (some .int)
theorem mX6_beatsOn : yM yX6_beatsOn hX6_beatsOn 2 := ⟨u_411, u_57, by decide +kernel, by decide +kernel, by decide +kernel⟩
set_option maxHeartbeats 4000000 in
set_option maxRecDepth 100000 in
theorem kX6_beatsOn (l : Launch) (D : va_G) (cy : Nat → ClassId) (x : Nat) (xj : Nat) (xw : Nat) (xz : Nat) (xo : Nat) (xy : Nat) (xt : Nat) (xwu : Nat) (xwm : Nat) (xwb : Int32) (xwk : Int32) (xt0 : Int32) (xt1 : Int32) (xt2 : Int32) (xt3 : Int32) (xt4 : Int32) (xt5 : Int32) (xt6 : Int32) (xt7 : Int32) (xt8 : Int32) (xt9 : Int32) (i1 : Int32) (i2 : Int32) {res : Int32 × Int32 × Int32 × Int32 × Int32 × Int32 × Int32 × Int32} (hR : fX6_beatsOn xwk xt0 xt1 xt2 xt3 xt4 xt5 xt6 xt7 xt8 xt9 i1 i2 = some res) : YM l D cy yX6_beatsOn hX6_beatsOn 3 0 0 [.ref x, .int i1, .int i2] [[(x, .inr (8, [.ref xj, .ref xw, .ref xz, .ref xo, .ref xy, .ref xt]))], [(xw, .inr (2, [.ref xwu, .ref xwm, .int xwb, .int xwk]))], [(xt, .inr (4, [.int xt0, .int xt1, .int xt2, .int xt3, .int xt4, .int xt5, .int xt6, .int xt7, .int xt8, .int xt9]))]] (fun v u => v = some (.int res.1) ∧ u = [[(x, .inr (8, [.ref xj, .ref xw, .ref xz, .ref xo, .ref xy, .ref xt]))], [(xw, .inr (2, [.ref xwu, .ref xwm, .int xwb, .int xwk]))], [(xt, .inr (4, [.int xt0, .int xt1, .int xt2, .int res.2.1, .int res.2.2.1, .int res.2.2.2.1, .int res.2.2.2.2.1, .int res.2.2.2.2.2.1, .int res.2.2.2.2.2.2.1, .int res.2.2.2.2.2.2.2]))]]) := by
  unfold fX6_beatsOn at hR
  refine YM.ofI (cc := cX6_beatsOn) (maxL := 3) (ret := (some .int)) (by decide +kernel) rfl (Nat.le_of_ble_eq_true rfl) [(0, .ref x), (1, .int i1), (2, .int i2)] rfl rfl (fun p e s m args below meth c A H0 Q C hnm ret => ?_)
  refine xr_aload_n (n := 1) (j := 0) C dX6_beatsOn_0 rfl rfl ?_
  refine xr_get (n := 4) C 0 rfl rfl 1 (by decide) in_X6 u_290 rfl (v := .ref xw) rfl dX6_beatsOn_1 rfl ?_
  refine xr_iload_n (n := 5) (j := 1) C dX6_beatsOn_4 rfl rfl ?_
  refine xr_iload_n (n := 6) (j := 2) C dX6_beatsOn_5 rfl rfl ?_
  obtain ⟨x_1, hx_1, hR⟩ := yf_b hR
  refine xr_callVp (n := 9) (As := [.int i1, .int i2]) (rest := []) C (kX0_crossKnown l D cy (w := xw) (wu := xwu) (wm := xwm) (wb := xwb) (wk := xwk) (i1 := i1) (i2 := i2) hx_1) mX0_crossKnown u_403 u_404 u_405 1 rfl rfl 3 [1] [0, 2] rfl (by decide +kernel) rfl rfl rfl rfl (Nat.le_of_ble_eq_true rfl) (Nat.le_of_ble_eq_true rfl) (Nat.le_of_ble_eq_true rfl) (Nat.le_of_ble_eq_true rfl) (Nat.le_of_ble_eq_true rfl) dX6_beatsOn_6 rfl (fun _ _ hp => hp.2) (fun v_2 hp_4 => ?_)
  obtain ⟨rfl, -⟩ := hp_4
  refine xr_st (st' := [.int x_1]) rfl ?_
  refine xr_if_eq (tgt := 14) (n := 12) C dX6_beatsOn_9 rfl rfl (fun c_5 => ?_) (fun c_5 => ?_)
  · replace hR := yf_t c_5 hR
    refine xr_aload_n (n := 15) (j := 0) C dX6_beatsOn_14 rfl rfl ?_
    refine xr_get (n := 18) C 0 rfl rfl 5 (by decide) in_X6 u_294 rfl (v := .ref xt) rfl dX6_beatsOn_15 rfl ?_
    refine xr_iload_n (n := 19) (j := 1) C dX6_beatsOn_18 rfl rfl ?_
    refine xr_iload_n (n := 20) (j := 2) C dX6_beatsOn_19 rfl rfl ?_
    obtain ⟨x_6, hx_6, hR⟩ := yf_b hR
    refine xr_callV (n := 23) (As := [.int i1, .int i2]) (rest := []) C (kX2_lay l D cy (y := xt) (y0 := xt0) (y1 := xt1) (y2 := xt2) (y3 := xt3) (y4 := xt4) (y5 := xt5) (y6 := xt6) (y7 := xt7) (y8 := xt8) (y9 := xt9) (i1 := i1) (i2 := i2) hx_6) mX2_lay u_354 u_355 u_356 2 rfl rfl 3 [2] [0, 1] rfl (by decide +kernel) rfl rfl rfl rfl (Nat.le_of_ble_eq_true rfl) (Nat.le_of_ble_eq_true rfl) (Nat.le_of_ble_eq_true rfl) (Nat.le_of_ble_eq_true rfl) (Nat.le_of_ble_eq_true rfl) dX6_beatsOn_20 rfl (fun v_7 u_8 hp_9 => ?_)
    obtain ⟨rfl, rfl⟩ := hp_9
    refine xr_perm C 3 [1, 2, 0] [] [[(x, .inr (8, [.ref xj, .ref xw, .ref xz, .ref xo, .ref xy, .ref xt]))], [(xw, .inr (2, [.ref xwu, .ref xwm, .int xwb, .int xwk]))], [(xt, .inr (4, [.int xt0, .int xt1, .int xt2, .int x_6.1, .int x_6.2.1, .int x_6.2.2.1, .int x_6.2.2.2.1, .int x_6.2.2.2.2.1, .int x_6.2.2.2.2.2.1, .int x_6.2.2.2.2.2.2]))]] rfl (by decide +kernel) rfl ?_
    refine xr_aload_n (n := 24) (j := 0) C dX6_beatsOn_23 rfl rfl ?_
    refine xr_get (n := 27) C 0 rfl rfl 5 (by decide) in_X6 u_294 rfl (v := .ref xt) rfl dX6_beatsOn_24 rfl ?_
    refine xr_getN (n := 30) C 2 rfl rfl 9 (by decide) in_X2 RX6 (List.mem_of_getElem? (i := 38) rfl) rfl (v := .int x_6.2.2.2.2.2.2) rfl dX6_beatsOn_27 rfl ?_
    obtain rfl := Option.some.inj hR
    exact ret x_6.2.2.2.2.2.2 ⟨rfl, rfl⟩ (Nat.le_of_ble_eq_true rfl) (Nat.le_of_ble_eq_true rfl) dX6_beatsOn_30
  · replace hR := yf_f c_5 hR
    refine xr_iconst (n := 13) (v := -1) C dX6_beatsOn_12 rfl rfl ?_
    obtain rfl := Option.some.inj hR
    exact ret (-1) ⟨rfl, rfl⟩ (Nat.le_of_ble_eq_true rfl) (Nat.le_of_ble_eq_true rfl) dX6_beatsOn_13
