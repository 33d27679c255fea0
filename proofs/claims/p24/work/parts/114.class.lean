theorem u_627 : Cond.methodLink RX6 201 yX1_rowsInAll ∈ yU := yu 627 (by decide +kernel) (by decide +kernel)
theorem u_628 : Cond.methodLink RX6 204 yX1_columnsInAll ∈ yU := yu 628 (by decide +kernel) (by decide +kernel)
theorem u_630 : Cond.methodLink RX6 209 yX1_plainOf ∈ yU := yu 630 (by decide +kernel) (by decide +kernel)
theorem u_631 : Cond.instanceMethod yX1_plainOf ∈ yU := yu 631 (by decide +kernel) (by decide +kernel)
theorem u_632 : Cond.selects RX1 yX1_plainOf yX1_plainOf ∈ yU := yu 632 (by decide +kernel) (by decide +kernel)
theorem u_626 : Cond.code yX6_plain cX6_plain 3 (some .int) ∈ yU := yu 626 (by decide +kernel) (by decide +kernel)
theorem u_641 : Cond.methodLink RX6 235 yX6_beatsOn ∈ yU := yu 641 (by decide +kernel) (by decide +kernel)
theorem u_643 : Cond.instanceMethod yX6_beatsOn ∈ yU := yu 643 (by decide +kernel) (by decide +kernel)
theorem u_17 : Cond.selects RX6 yX6_beatsOn yX6_beatsOn ∈ yU := yu 17 (by decide +kernel) (by decide +kernel)
theorem u_639 : Cond.code yX6_beats cX6_beats 3 (some .int) ∈ yU := yu 639 (by decide +kernel) (by decide +kernel)
theorem u_655 : Cond.methodLink RX6 240 yX6_bestNumber ∈ yU := yu 655 (by decide +kernel) (by decide +kernel)
theorem u_657 : Cond.instanceMethod yX6_bestNumber ∈ yU := yu 657 (by decide +kernel) (by decide +kernel)
theorem u_18 : Cond.selects RX6 yX6_bestNumber yX6_bestNumber ∈ yU := yu 18 (by decide +kernel) (by decide +kernel)
theorem u_653 : Cond.code yX6_best cX6_best 2 (some .int) ∈ yU := yu 653 (by decide +kernel) (by decide +kernel)
theorem u_675 : Cond.code yX6_isBestSound cX6_isBestSound 4 (some .boolean) ∈ yU := yu 675 (by decide +kernel) (by decide +kernel)
theorem u_684 : Cond.methodLink RX6 347 yX0_sumOfUses ∈ yU := yu 684 (by decide +kernel) (by decide +kernel)
theorem u_685 : Cond.instanceMethod yX0_sumOfUses ∈ yU := yu 685 (by decide +kernel) (by decide +kernel)
theorem u_686 : Cond.selects RX0 yX0_sumOfUses yX0_sumOfUses ∈ yU := yu 686 (by decide +kernel) (by decide +kernel)
theorem u_688 : Cond.methodLink RX6 353 yX5_takenInTile ∈ yU := yu 688 (by decide +kernel) (by decide +kernel)
theorem u_689 : Cond.instanceMethod yX5_takenInTile ∈ yU := yu 689 (by decide +kernel) (by decide +kernel)
theorem u_690 : Cond.selects RX5 yX5_takenInTile yX5_takenInTile ∈ yU := yu 690 (by decide +kernel) (by decide +kernel)
theorem u_683 : Cond.code yX6_doUsesAddUp cX6_doUsesAddUp 1 (some .boolean) ∈ yU := yu 683 (by decide +kernel) (by decide +kernel)
theorem u_672 : Cond.methodLink RX6 335 yX6_isBestSound ∈ yU := yu 672 (by decide +kernel) (by decide +kernel)
theorem u_674 : Cond.instanceMethod yX6_isBestSound ∈ yU := yu 674 (by decide +kernel) (by decide +kernel)
theorem u_20 : Cond.selects RX6 yX6_isBestSound yX6_isBestSound ∈ yU := yu 20 (by decide +kernel) (by decide +kernel)
theorem u_676 : Cond.methodLink RX6 338 yX0_areKnownBroken ∈ yU := yu 676 (by decide +kernel) (by decide +kernel)
theorem u_677 : Cond.instanceMethod yX0_areKnownBroken ∈ yU := yu 677 (by decide +kernel) (by decide +kernel)
theorem u_678 : Cond.selects RX0 yX0_areKnownBroken yX0_areKnownBroken ∈ yU := yu 678 (by decide +kernel) (by decide +kernel)
theorem u_680 : Cond.methodLink RX6 341 yX6_doUsesAddUp ∈ yU := yu 680 (by decide +kernel) (by decide +kernel)
theorem u_682 : Cond.instanceMethod yX6_doUsesAddUp ∈ yU := yu 682 (by decide +kernel) (by decide +kernel)
theorem u_21 : Cond.selects RX6 yX6_doUsesAddUp yX6_doUsesAddUp ∈ yU := yu 21 (by decide +kernel) (by decide +kernel)
theorem u_693 : Cond.methodLink RX6 344 yX5_isUnfinished ∈ yU := yu 693 (by decide +kernel) (by decide +kernel)
theorem u_694 : Cond.instanceMethod yX5_isUnfinished ∈ yU := yu 694 (by decide +kernel) (by decide +kernel)
theorem u_695 : Cond.selects RX5 yX5_isUnfinished yX5_isUnfinished ∈ yU := yu 695 (by decide +kernel) (by decide +kernel)
theorem u_671 : Cond.code yX6_isAllSound cX6_isAllSound 1 (some .boolean) ∈ yU := yu 671 (by decide +kernel) (by decide +kernel)
theorem dX6_plain_0 : decode cX6_plain 0 = .ok (.iload_n 1, 1) := by decide +kernel
theorem dX6_plain_1 : decode cX6_plain 1 = .ok (.ifCond .lt 29, 3) := by decide +kernel
theorem dX6_plain_4 : decode cX6_plain 4 = .ok (.iload_n 1, 1) := by decide +kernel
theorem dX6_plain_5 : decode cX6_plain 5 = .ok (.aload_n 0, 1) := by decide +kernel
theorem dX6_plain_6 : decode cX6_plain 6 = .ok (.getfield 10, 3) := by decide +kernel
theorem dX6_plain_9 : decode cX6_plain 9 = .ok (.invokevirtual 201, 3) := by decide +kernel
theorem dX6_plain_12 : decode cX6_plain 12 = .ok (.if_icmp .ge 18, 3) := by decide +kernel
theorem dX6_plain_15 : decode cX6_plain 15 = .ok (.iload_n 2, 1) := by decide +kernel
theorem dX6_plain_16 : decode cX6_plain 16 = .ok (.ifCond .lt 14, 3) := by decide +kernel
theorem dX6_plain_19 : decode cX6_plain 19 = .ok (.iload_n 2, 1) := by decide +kernel
theorem dX6_plain_20 : decode cX6_plain 20 = .ok (.aload_n 0, 1) := by decide +kernel
theorem dX6_plain_21 : decode cX6_plain 21 = .ok (.getfield 10, 3) := by decide +kernel
theorem dX6_plain_24 : decode cX6_plain 24 = .ok (.invokevirtual 204, 3) := by decide +kernel
theorem dX6_plain_27 : decode cX6_plain 27 = .ok (.if_icmp .lt 13, 3) := by decide +kernel
theorem dX6_plain_30 : decode cX6_plain 30 = .ok (.new 69, 3) := by decide +kernel
theorem dX6_plain_33 : decode cX6_plain 33 = .ok (.dup, 1) := by decide +kernel
theorem dX6_plain_34 : decode cX6_plain 34 = .ok (.ldc 207, 2) := by decide +kernel
theorem dX6_plain_36 : decode cX6_plain 36 = .ok (.invokespecial 73, 3) := by decide +kernel
theorem dX6_plain_39 : decode cX6_plain 39 = .ok (.athrow, 1) := by decide +kernel
theorem dX6_plain_40 : decode cX6_plain 40 = .ok (.aload_n 0, 1) := by decide +kernel
theorem dX6_plain_41 : decode cX6_plain 41 = .ok (.getfield 10, 3) := by decide +kernel
theorem dX6_plain_44 : decode cX6_plain 44 = .ok (.iload_n 1, 1) := by decide +kernel
theorem dX6_plain_45 : decode cX6_plain 45 = .ok (.iload_n 2, 1) := by decide +kernel
theorem dX6_plain_46 : decode cX6_plain 46 = .ok (.invokevirtual 209, 3) := by decide +kernel
theorem dX6_plain_49 : decode cX6_plain 49 = .ok (.ireturn, 1) := by decide +kernel
def fX6_plain (xjr : Int32) (xjk : Int32) (xjc : Int32) (xjg : Int32) (xjs : Int32) (xjaf : Nat → Int32) (xjbf : Nat → Int32) (i1 : Int32) (i2 : Int32) : Option (Int32) := (if i1 < 0 then none else ((fX1_rowsInAll xjr xjs).bind fun x_2 => (if x_2 ≤ i1 then none else (if i2 < 0 then none else ((fX1_columnsInAll xjc xjs).bind fun x_8 => (if i2 < x_8 then ((fX1_plainOf xjr xjk xjc xjg xjaf xjbf i1 i2).bind fun x_13 => some x_13) else none))))))
abbrev hX6_plain : Cond := .code yX6_plain cX6_plain 3 (some .int)
theorem mX6_plain : yM yX6_plain hX6_plain 2 := ⟨u_626, u_28, by decide +kernel, by decide +kernel, by decide +kernel⟩
set_option maxHeartbeats 4000000 in
set_option maxRecDepth 100000 in
theorem kX6_plain (l : Launch) (D : va_G) (cy : Nat → ClassId) (x : Nat) (xj : Nat) (xw : Nat) (xz : Nat) (xo : Nat) (xy : Nat) (xt : Nat) (xja : Nat) (xjb : Nat) (xjr : Int32) (xjk : Int32) (xjc : Int32) (xjg : Int32) (xjs : Int32) (xjan : Nat) (xjaf : Nat → Int32) (xjbn : Nat) (xjbf : Nat → Int32) (i1 : Int32) (i2 : Int32) {res : Int32} (hR : fX6_plain xjr xjk xjc xjg xjs xjaf xjbf i1 i2 = some res) : YM l D cy yX6_plain hX6_plain 5 0 0 [.ref x, .int i1, .int i2] [[(x, .inr (6, [.ref xj, .ref xw, .ref xz, .ref xo, .ref xy, .ref xt]))], [(xj, .inr (1, [.ref xja, .ref xjb, .int xjr, .int xjk, .int xjc, .int xjg, .int xjs]))], [(xja, .inr (4, [.ref xjan]))], [(xjan, .inl (cy 1, 81, .inl xjaf))], [(xjb, .inr (4, [.ref xjbn]))], [(xjbn, .inl (cy 1, 81, .inl xjbf))]] (fun v u => v = some (.int res) ∧ u = [[(x, .inr (6, [.ref xj, .ref xw, .ref xz, .ref xo, .ref xy, .ref xt]))], [(xj, .inr (1, [.ref xja, .ref xjb, .int xjr, .int xjk, .int xjc, .int xjg, .int xjs]))], [(xja, .inr (4, [.ref xjan]))], [(xjan, .inl (cy 1, 81, .inl xjaf))], [(xjb, .inr (4, [.ref xjbn]))], [(xjbn, .inl (cy 1, 81, .inl xjbf))]]) := by
  unfold fX6_plain at hR
  refine YM.ofI (cc := cX6_plain) (maxL := 3) (ret := (some .int)) (by decide +kernel) rfl (Nat.le_of_ble_eq_true rfl) [(0, .ref x), (1, .int i1), (2, .int i2)] rfl rfl (fun p e s m args below meth c A H0 Q C hnm ret => ?_)
  refine xr_iload_n (n := 1) (j := 1) C dX6_plain_0 rfl rfl ?_
  refine xr_if_lt (tgt := 30) (n := 4) C dX6_plain_1 rfl rfl (fun c_1 => ?_) (fun c_1 => ?_)
  · replace hR := yf_t c_1 hR
    cases hR
  · replace hR := yf_f c_1 hR
    refine xr_iload_n (n := 5) (j := 1) C dX6_plain_4 rfl rfl ?_
    refine xr_aload_n (n := 6) (j := 0) C dX6_plain_5 rfl rfl ?_
    refine xr_get (n := 9) C 0 rfl rfl 0 (by decide) in_X6 u_248 rfl (v := .ref xj) rfl dX6_plain_6 rfl ?_
    obtain ⟨x_2, hx_2, hR⟩ := yf_b hR
    refine xr_callVp (n := 12) (As := []) (rest := [.int i1]) C (kX1_rowsInAll l D cy (j := xj) (ja := xja) (jb := xjb) (jr := xjr) (jk := xjk) (jc := xjc) (jg := xjg) (js := xjs) hx_2) mX1_rowsInAll u_627 u_366 u_367 1 rfl rfl 6 [1] [0, 2, 3, 4, 5] rfl (by decide +kernel) rfl rfl rfl rfl (Nat.le_of_ble_eq_true rfl) (Nat.le_of_ble_eq_true rfl) (Nat.le_of_ble_eq_true rfl) (Nat.le_of_ble_eq_true rfl) (Nat.le_of_ble_eq_true rfl) dX6_plain_9 rfl (fun _ _ hp => hp.2) (fun v_3 hp_5 => ?_)
    obtain ⟨rfl, -⟩ := hp_5
    refine xr_st (st' := [.int x_2, .int i1]) rfl ?_
    refine xr_icmp_ge (tgt := 30) (n := 15) C dX6_plain_12 rfl rfl (fun c_6 => ?_) (fun c_6 => ?_)
    · replace hR := yf_t c_6 hR
      cases hR
    · replace hR := yf_f c_6 hR
      refine xr_iload_n (n := 16) (j := 2) C dX6_plain_15 rfl rfl ?_
      refine xr_if_lt (tgt := 30) (n := 19) C dX6_plain_16 rfl rfl (fun c_7 => ?_) (fun c_7 => ?_)
      · replace hR := yf_t c_7 hR
        cases hR
      · replace hR := yf_f c_7 hR
        refine xr_iload_n (n := 20) (j := 2) C dX6_plain_19 rfl rfl ?_
        refine xr_aload_n (n := 21) (j := 0) C dX6_plain_20 rfl rfl ?_
        refine xr_get (n := 24) C 0 rfl rfl 0 (by decide) in_X6 u_248 rfl (v := .ref xj) rfl dX6_plain_21 rfl ?_
        obtain ⟨x_8, hx_8, hR⟩ := yf_b hR
        refine xr_callVp (n := 27) (As := []) (rest := [.int i2]) C (kX1_columnsInAll l D cy (j := xj) (ja := xja) (jb := xjb) (jr := xjr) (jk := xjk) (jc := xjc) (jg := xjg) (js := xjs) hx_8) mX1_columnsInAll u_628 u_370 u_371 1 rfl rfl 6 [1] [0, 2, 3, 4, 5] rfl (by decide +kernel) rfl rfl rfl rfl (Nat.le_of_ble_eq_true rfl) (Nat.le_of_ble_eq_true rfl) (Nat.le_of_ble_eq_true rfl) (Nat.le_of_ble_eq_true rfl) (Nat.le_of_ble_eq_true rfl) dX6_plain_24 rfl (fun _ _ hp => hp.2) (fun v_9 hp_11 => ?_)
        obtain ⟨rfl, -⟩ := hp_11
        refine xr_st (st' := [.int x_8, .int i2]) rfl ?_
        refine xr_icmp_lt (tgt := 40) (n := 30) C dX6_plain_27 rfl rfl (fun c_12 => ?_) (fun c_12 => ?_)
        · replace hR := yf_t c_12 hR
          refine xr_aload_n (n := 41) (j := 0) C dX6_plain_40 rfl rfl ?_
          refine xr_get (n := 44) C 0 rfl rfl 0 (by decide) in_X6 u_248 rfl (v := .ref xj) rfl dX6_plain_41 rfl ?_
          refine xr_iload_n (n := 45) (j := 1) C dX6_plain_44 rfl rfl ?_
          refine xr_iload_n (n := 46) (j := 2) C dX6_plain_45 rfl rfl ?_
          obtain ⟨x_13, hx_13, hR⟩ := yf_b hR
          refine xr_callVp (n := 49) (As := [.int i1, .int i2]) (rest := []) C (kX1_plainOf l D cy (j := xj) (ja := xja) (jb := xjb) (jr := xjr) (jk := xjk) (jc := xjc) (jg := xjg) (js := xjs) (jan := xjan) (jaf := xjaf) (jbn := xjbn) (jbf := xjbf) (i1 := i1) (i2 := i2) hx_13) mX1_plainOf u_630 u_631 u_632 1 rfl rfl 6 [1, 2, 3, 4, 5] [0] rfl (by decide +kernel) rfl rfl rfl rfl (Nat.le_of_ble_eq_true rfl) (Nat.le_of_ble_eq_true rfl) (Nat.le_of_ble_eq_true rfl) (Nat.le_of_ble_eq_true rfl) (Nat.le_of_ble_eq_true rfl) dX6_plain_46 rfl (fun _ _ hp => hp.2) (fun v_14 hp_16 => ?_)
          obtain ⟨rfl, -⟩ := hp_16
          refine xr_st (st' := [.int x_13]) rfl ?_
          obtain rfl := Option.some.inj hR
          exact ret x_13 ⟨rfl, rfl⟩ (Nat.le_of_ble_eq_true rfl) (Nat.le_of_ble_eq_true rfl) dX6_plain_49
        · replace hR := yf_f c_12 hR
          cases hR
theorem dX6_beats_0 : decode cX6_beats 0 = .ok (.iload_n 1, 1) := by decide +kernel
theorem dX6_beats_1 : decode cX6_beats 1 = .ok (.iconst 1, 1) := by decide +kernel
theorem dX6_beats_2 : decode cX6_beats 2 = .ok (.if_icmp .lt 20, 3) := by decide +kernel
theorem dX6_beats_5 : decode cX6_beats 5 = .ok (.iload_n 1, 1) := by decide +kernel
theorem dX6_beats_6 : decode cX6_beats 6 = .ok (.bipush 31, 2) := by decide +kernel
theorem dX6_beats_8 : decode cX6_beats 8 = .ok (.if_icmp .gt 14, 3) := by decide +kernel
theorem dX6_beats_11 : decode cX6_beats 11 = .ok (.iload_n 2, 1) := by decide +kernel
theorem dX6_beats_12 : decode cX6_beats 12 = .ok (.iconst 1, 1) := by decide +kernel
theorem dX6_beats_13 : decode cX6_beats 13 = .ok (.if_icmp .lt 9, 3) := by decide +kernel
theorem dX6_beats_16 : decode cX6_beats 16 = .ok (.iload_n 2, 1) := by decide +kernel
theorem dX6_beats_17 : decode cX6_beats 17 = .ok (.bipush 31, 2) := by decide +kernel
theorem dX6_beats_19 : decode cX6_beats 19 = .ok (.if_icmp .le 13, 3) := by decide +kernel
theorem dX6_beats_22 : decode cX6_beats 22 = .ok (.new 47, 3) := by decide +kernel
theorem dX6_beats_25 : decode cX6_beats 25 = .ok (.dup, 1) := by decide +kernel
theorem dX6_beats_26 : decode cX6_beats 26 = .ok (.ldc 229, 2) := by decide +kernel
theorem dX6_beats_28 : decode cX6_beats 28 = .ok (.invokespecial 51, 3) := by decide +kernel
theorem dX6_beats_31 : decode cX6_beats 31 = .ok (.athrow, 1) := by decide +kernel
theorem dX6_beats_32 : decode cX6_beats 32 = .ok (.aload_n 0, 1) := by decide +kernel
theorem dX6_beats_33 : decode cX6_beats 33 = .ok (.getfield 44, 3) := by decide +kernel
theorem dX6_beats_36 : decode cX6_beats 36 = .ok (.aload_n 0, 1) := by decide +kernel
theorem dX6_beats_37 : decode cX6_beats 37 = .ok (.getfield 10, 3) := by decide +kernel
theorem dX6_beats_40 : decode cX6_beats 40 = .ok (.invokevirtual 231, 3) := by decide +kernel
theorem dX6_beats_43 : decode cX6_beats 43 = .ok (.aload_n 0, 1) := by decide +kernel
theorem dX6_beats_44 : decode cX6_beats 44 = .ok (.iload_n 1, 1) := by decide +kernel
theorem dX6_beats_45 : decode cX6_beats 45 = .ok (.iload_n 2, 1) := by decide +kernel
theorem dX6_beats_46 : decode cX6_beats 46 = .ok (.invokevirtual 235, 3) := by decide +kernel
theorem dX6_beats_49 : decode cX6_beats 49 = .ok (.ireturn, 1) := by decide +kernel
def fX6_beats (xjr : Int32) (xjk : Int32) (xjc : Int32) (xjg : Int32) (xjs : Int32) (xjaf : Nat → Int32) (xjbf : Nat → Int32) (xwk : Int32) (xt3 : Int32) (xt4 : Int32) (xt5 : Int32) (xt6 : Int32) (xt7 : Int32) (xt8 : Int32) (xt9 : Int32) (i1 : Int32) (i2 : Int32) : Option (Int32 × Int32 × Int32 × Int32 × Int32 × Int32 × Int32 × Int32 × Int32 × Int32 × Int32) := (if i1 < 1 then none else (if 31 < i1 then none else (if i2 < 1 then none else (if i2 ≤ 31 then ((fX2_measure xjr xjk xjc xjg xjs xjaf xjbf).bind fun x_5 => ((fX6_beatsOn xwk x_5.1 x_5.2.1 x_5.2.2 xt3 xt4 xt5 xt6 xt7 xt8 xt9 i1 i2).bind fun x_9 => some (x_9.1, x_5.1, x_5.2.1, x_5.2.2, x_9.2.1, x_9.2.2.1, x_9.2.2.2.1, x_9.2.2.2.2.1, x_9.2.2.2.2.2.1, x_9.2.2.2.2.2.2.1, x_9.2.2.2.2.2.2.2))) else none))))
abbrev hX6_beats : Cond := .code yX6_beats cX6_beats 3 (some .int)
theorem mX6_beats : yM yX6_beats hX6_beats 2 := ⟨u_639, u_28, by decide +kernel, by decide +kernel, by decide +kernel⟩
set_option maxHeartbeats 4000000 in
set_option maxRecDepth 100000 in
theorem kX6_beats (l : Launch) (D : va_G) (cy : Nat → ClassId) (x : Nat) (xj : Nat) (xw : Nat) (xz : Nat) (xo : Nat) (xy : Nat) (xt : Nat) (xja : Nat) (xjb : Nat) (xjr : Int32) (xjk : Int32) (xjc : Int32) (xjg : Int32) (xjs : Int32) (xjan : Nat) (xjaf : Nat → Int32) (xjbn : Nat) (xjbf : Nat → Int32) (xwu : Nat) (xwm : Nat) (xwb : Int32) (xwk : Int32) (xt0 : Int32) (xt1 : Int32) (xt2 : Int32) (xt3 : Int32) (xt4 : Int32) (xt5 : Int32) (xt6 : Int32) (xt7 : Int32) (xt8 : Int32) (xt9 : Int32) (i1 : Int32) (i2 : Int32) {res : Int32 × Int32 × Int32 × Int32 × Int32 × Int32 × Int32 × Int32 × Int32 × Int32 × Int32} (hR : fX6_beats xjr xjk xjc xjg xjs xjaf xjbf xwk xt3 xt4 xt5 xt6 xt7 xt8 xt9 i1 i2 = some res) : YM l D cy yX6_beats hX6_beats 6 0 0 [.ref x, .int i1, .int i2] [[(x, .inr (6, [.ref xj, .ref xw, .ref xz, .ref xo, .ref xy, .ref xt]))], [(xj, .inr (1, [.ref xja, .ref xjb, .int xjr, .int xjk, .int xjc, .int xjg, .int xjs]))], [(xja, .inr (4, [.ref xjan]))], [(xjan, .inl (cy 1, 81, .inl xjaf))], [(xjb, .inr (4, [.ref xjbn]))], [(xjbn, .inl (cy 1, 81, .inl xjbf))], [(xw, .inr (0, [.ref xwu, .ref xwm, .int xwb, .int xwk]))], [(xt, .inr (2, [.int xt0, .int xt1, .int xt2, .int xt3, .int xt4, .int xt5, .int xt6, .int xt7, .int xt8, .int xt9]))]] (fun v u => v = some (.int res.1) ∧ u = [[(x, .inr (6, [.ref xj, .ref xw, .ref xz, .ref xo, .ref xy, .ref xt]))], [(xj, .inr (1, [.ref xja, .ref xjb, .int xjr, .int xjk, .int xjc, .int xjg, .int xjs]))], [(xja, .inr (4, [.ref xjan]))], [(xjan, .inl (cy 1, 81, .inl xjaf))], [(xjb, .inr (4, [.ref xjbn]))], [(xjbn, .inl (cy 1, 81, .inl xjbf))], [(xw, .inr (0, [.ref xwu, .ref xwm, .int xwb, .int xwk]))], [(xt, .inr (2, [.int res.2.1, .int res.2.2.1, .int res.2.2.2.1, .int res.2.2.2.2.1, .int res.2.2.2.2.2.1, .int res.2.2.2.2.2.2.1, .int res.2.2.2.2.2.2.2.1, .int res.2.2.2.2.2.2.2.2.1, .int res.2.2.2.2.2.2.2.2.2.1, .int res.2.2.2.2.2.2.2.2.2.2]))]]) := by
  unfold fX6_beats at hR
  refine YM.ofI (cc := cX6_beats) (maxL := 3) (ret := (some .int)) (by decide +kernel) rfl (Nat.le_of_ble_eq_true rfl) [(0, .ref x), (1, .int i1), (2, .int i2)] rfl rfl (fun p e s m args below meth c A H0 Q C hnm ret => ?_)
  refine xr_iload_n (n := 1) (j := 1) C dX6_beats_0 rfl rfl ?_
  refine xr_iconst (n := 2) (v := 1) C dX6_beats_1 rfl rfl ?_
  refine xr_icmp_lt (tgt := 22) (n := 5) C dX6_beats_2 rfl rfl (fun c_1 => ?_) (fun c_1 => ?_)
  · replace hR := yf_t c_1 hR
    cases hR
  · replace hR := yf_f c_1 hR
    refine xr_iload_n (n := 6) (j := 1) C dX6_beats_5 rfl rfl ?_
    refine xr_bipush (n := 8) (v := 31) C dX6_beats_6 rfl rfl ?_
    refine xr_icmp_gt (tgt := 22) (n := 11) C dX6_beats_8 rfl rfl (fun c_2 => ?_) (fun c_2 => ?_)
    · replace hR := yf_t c_2 hR
      cases hR
    · replace hR := yf_f c_2 hR
      refine xr_iload_n (n := 12) (j := 2) C dX6_beats_11 rfl rfl ?_
      refine xr_iconst (n := 13) (v := 1) C dX6_beats_12 rfl rfl ?_
      refine xr_icmp_lt (tgt := 22) (n := 16) C dX6_beats_13 rfl rfl (fun c_3 => ?_) (fun c_3 => ?_)
      · replace hR := yf_t c_3 hR
        cases hR
      · replace hR := yf_f c_3 hR
        refine xr_iload_n (n := 17) (j := 2) C dX6_beats_16 rfl rfl ?_
        refine xr_bipush (n := 19) (v := 31) C dX6_beats_17 rfl rfl ?_
        refine xr_icmp_le (tgt := 32) (n := 22) C dX6_beats_19 rfl rfl (fun c_4 => ?_) (fun c_4 => ?_)
        · replace hR := yf_t c_4 hR
          refine xr_aload_n (n := 33) (j := 0) C dX6_beats_32 rfl rfl ?_
          refine xr_get (n := 36) C 0 rfl rfl 5 (by decide) in_X6 u_253 rfl (v := .ref xt) rfl dX6_beats_33 rfl ?_
          refine xr_aload_n (n := 37) (j := 0) C dX6_beats_36 rfl rfl ?_
          refine xr_get (n := 40) C 0 rfl rfl 0 (by decide) in_X6 u_248 rfl (v := .ref xj) rfl dX6_beats_37 rfl ?_
          obtain ⟨x_5, hx_5, hR⟩ := yf_b hR
          refine xr_callV (n := 43) (As := [.ref xj]) (rest := []) C (kX2_measure l D cy (y := xt) (y0 := xt0) (y1 := xt1) (y2 := xt2) (y3 := xt3) (y4 := xt4) (y5 := xt5) (y6 := xt6) (y7 := xt7) (y8 := xt8) (y9 := xt9) (j := xj) (ja := xja) (jb := xjb) (jr := xjr) (jk := xjk) (jc := xjc) (jg := xjg) (js := xjs) (jan := xjan) (jaf := xjaf) (jbn := xjbn) (jbf := xjbf) hx_5) mX2_measure u_361 u_362 u_363 7 rfl rfl 8 [7, 1, 2, 3, 4, 5] [0, 6] rfl (by decide +kernel) rfl rfl rfl rfl (Nat.le_of_ble_eq_true rfl) (Nat.le_of_ble_eq_true rfl) (Nat.le_of_ble_eq_true rfl) (Nat.le_of_ble_eq_true rfl) (Nat.le_of_ble_eq_true rfl) dX6_beats_40 rfl (fun v_6 u_7 hp_8 => ?_)
          obtain ⟨rfl, rfl⟩ := hp_8
          refine xr_perm C 8 [6, 1, 2, 3, 4, 5, 7, 0] [] [[(x, .inr (6, [.ref xj, .ref xw, .ref xz, .ref xo, .ref xy, .ref xt]))], [(xj, .inr (1, [.ref xja, .ref xjb, .int xjr, .int xjk, .int xjc, .int xjg, .int xjs]))], [(xja, .inr (4, [.ref xjan]))], [(xjan, .inl (cy 1, 81, .inl xjaf))], [(xjb, .inr (4, [.ref xjbn]))], [(xjbn, .inl (cy 1, 81, .inl xjbf))], [(xw, .inr (0, [.ref xwu, .ref xwm, .int xwb, .int xwk]))], [(xt, .inr (2, [.int x_5.1, .int x_5.2.1, .int x_5.2.2, .int xt3, .int xt4, .int xt5, .int xt6, .int xt7, .int xt8, .int xt9]))]] rfl (by decide +kernel) rfl ?_
          refine xr_aload_n (n := 44) (j := 0) C dX6_beats_43 rfl rfl ?_
          refine xr_iload_n (n := 45) (j := 1) C dX6_beats_44 rfl rfl ?_
          refine xr_iload_n (n := 46) (j := 2) C dX6_beats_45 rfl rfl ?_
          obtain ⟨x_9, hx_9, hR⟩ := yf_b hR
          refine xr_callV (n := 49) (As := [.int i1, .int i2]) (rest := []) C (kX6_beatsOn l D cy (x := x) (xj := xj) (xw := xw) (xz := xz) (xo := xo) (xy := xy) (xt := xt) (xwu := xwu) (xwm := xwm) (xwb := xwb) (xwk := xwk) (xt0 := x_5.1) (xt1 := x_5.2.1) (xt2 := x_5.2.2) (xt3 := xt3) (xt4 := xt4) (xt5 := xt5) (xt6 := xt6) (xt7 := xt7) (xt8 := xt8) (xt9 := xt9) (i1 := i1) (i2 := i2) hx_9) mX6_beatsOn u_641 u_643 u_17 0 rfl rfl 8 [0, 6, 7] [1, 2, 3, 4, 5] rfl (by decide +kernel) rfl rfl rfl rfl (Nat.le_of_ble_eq_true rfl) (Nat.le_of_ble_eq_true rfl) (Nat.le_of_ble_eq_true rfl) (Nat.le_of_ble_eq_true rfl) (Nat.le_of_ble_eq_true rfl) dX6_beats_46 rfl (fun v_10 u_11 hp_12 => ?_)
          obtain ⟨rfl, rfl⟩ := hp_12
          refine xr_perm C 8 [0, 3, 4, 5, 6, 7, 1, 2] [] [[(x, .inr (6, [.ref xj, .ref xw, .ref xz, .ref xo, .ref xy, .ref xt]))], [(xj, .inr (1, [.ref xja, .ref xjb, .int xjr, .int xjk, .int xjc, .int xjg, .int xjs]))], [(xja, .inr (4, [.ref xjan]))], [(xjan, .inl (cy 1, 81, .inl xjaf))], [(xjb, .inr (4, [.ref xjbn]))], [(xjbn, .inl (cy 1, 81, .inl xjbf))], [(xw, .inr (0, [.ref xwu, .ref xwm, .int xwb, .int xwk]))], [(xt, .inr (2, [.int x_5.1, .int x_5.2.1, .int x_5.2.2, .int x_9.2.1, .int x_9.2.2.1, .int x_9.2.2.2.1, .int x_9.2.2.2.2.1, .int x_9.2.2.2.2.2.1, .int x_9.2.2.2.2.2.2.1, .int x_9.2.2.2.2.2.2.2]))]] rfl (by decide +kernel) rfl ?_
          refine xr_st (st' := [.int x_9.1]) rfl ?_
          obtain rfl := Option.some.inj hR
          exact ret x_9.1 ⟨rfl, rfl⟩ (Nat.le_of_ble_eq_true rfl) (Nat.le_of_ble_eq_true rfl) dX6_beats_49
        · replace hR := yf_f c_4 hR
          cases hR
theorem dX6_best_0 : decode cX6_best 0 = .ok (.iload_n 1, 1) := by decide +kernel
theorem dX6_best_1 : decode cX6_best 1 = .ok (.ifCond .lt 8, 3) := by decide +kernel
theorem dX6_best_4 : decode cX6_best 4 = .ok (.iload_n 1, 1) := by decide +kernel
theorem dX6_best_5 : decode cX6_best 5 = .ok (.iconst 4, 1) := by decide +kernel
theorem dX6_best_6 : decode cX6_best 6 = .ok (.if_icmp .le 13, 3) := by decide +kernel
theorem dX6_best_9 : decode cX6_best 9 = .ok (.new 47, 3) := by decide +kernel
theorem dX6_best_12 : decode cX6_best 12 = .ok (.dup, 1) := by decide +kernel
theorem dX6_best_13 : decode cX6_best 13 = .ok (.ldc 238, 2) := by decide +kernel
theorem dX6_best_15 : decode cX6_best 15 = .ok (.invokespecial 51, 3) := by decide +kernel
theorem dX6_best_18 : decode cX6_best 18 = .ok (.athrow, 1) := by decide +kernel
theorem dX6_best_19 : decode cX6_best 19 = .ok (.aload_n 0, 1) := by decide +kernel
theorem dX6_best_20 : decode cX6_best 20 = .ok (.invokevirtual 143, 3) := by decide +kernel
theorem dX6_best_23 : decode cX6_best 23 = .ok (.aload_n 0, 1) := by decide +kernel
theorem dX6_best_24 : decode cX6_best 24 = .ok (.iload_n 1, 1) := by decide +kernel
theorem dX6_best_25 : decode cX6_best 25 = .ok (.invokevirtual 240, 3) := by decide +kernel
theorem dX6_best_28 : decode cX6_best 28 = .ok (.ireturn, 1) := by decide +kernel
def fX6_best (xjr : Int32) (xjk : Int32) (xjc : Int32) (xjg : Int32) (xjs : Int32) (xjaf : Nat → Int32) (xjbf : Nat → Int32) (xwk : Int32) (xt3 : Int32) (xt4 : Int32) (xt5 : Int32) (xt6 : Int32) (xt7 : Int32) (xt8 : Int32) (xt9 : Int32) (i1 : Int32) : Option (Int32 × Int32 × Int32 × Int32 × Int32 × Int32 × Int32 × Int32 × Int32 × Int32 × Int32 × Int32 × Int32 × Int32 × Int32 × Int32 × Int32 × Int32 × Int32 × Int32 × Int32) := (if i1 < 0 then none else (if i1 ≤ 4 then ((fX6_findBest xjr xjk xjc xjg xjs xjaf xjbf xwk xt3 xt4 xt5 xt6 xt7 xt8 xt9).bind fun x_3 => ((fX6_bestNumber x_3.1 x_3.2.1 x_3.2.2.1 x_3.2.2.2.1 x_3.2.2.2.2.1 x_3.2.2.2.2.2.2.2.1 x_3.2.2.2.2.2.2.2.2.1 x_3.2.2.2.2.2.2.2.2.2.1 i1).bind fun x_7 => some (x_7, x_3.1, x_3.2.1, x_3.2.2.1, x_3.2.2.2.1, x_3.2.2.2.2.1, x_3.2.2.2.2.2.1, x_3.2.2.2.2.2.2.1, x_3.2.2.2.2.2.2.2.1, x_3.2.2.2.2.2.2.2.2.1, x_3.2.2.2.2.2.2.2.2.2.1, x_3.2.2.2.2.2.2.2.2.2.2.1, x_3.2.2.2.2.2.2.2.2.2.2.2.1, x_3.2.2.2.2.2.2.2.2.2.2.2.2.1, x_3.2.2.2.2.2.2.2.2.2.2.2.2.2.1, x_3.2.2.2.2.2.2.2.2.2.2.2.2.2.2.1, x_3.2.2.2.2.2.2.2.2.2.2.2.2.2.2.2.1, x_3.2.2.2.2.2.2.2.2.2.2.2.2.2.2.2.2.1, x_3.2.2.2.2.2.2.2.2.2.2.2.2.2.2.2.2.2.1, x_3.2.2.2.2.2.2.2.2.2.2.2.2.2.2.2.2.2.2.1, x_3.2.2.2.2.2.2.2.2.2.2.2.2.2.2.2.2.2.2.2))) else none))
abbrev hX6_best : Cond := .code yX6_best cX6_best 2 (some .int)
theorem mX6_best : yM yX6_best hX6_best 1 := ⟨u_653, u_28, by decide +kernel, by decide +kernel, by decide +kernel⟩
set_option maxHeartbeats 4000000 in
set_option maxRecDepth 100000 in
theorem kX6_best (l : Launch) (D : va_G) (cy : Nat → ClassId) (x : Nat) (xj : Nat) (xw : Nat) (xz : Nat) (xo : Nat) (xy : Nat) (xt : Nat) (xja : Nat) (xjb : Nat) (xjr : Int32) (xjk : Int32) (xjc : Int32) (xjg : Int32) (xjs : Int32) (xjan : Nat) (xjaf : Nat → Int32) (xjbn : Nat) (xjbf : Nat → Int32) (xwu : Nat) (xwm : Nat) (xwb : Int32) (xwk : Int32) (xy0 : Int32) (xy1 : Int32) (xy2 : Int32) (xy3 : Int32) (xy4 : Int32) (xy5 : Int32) (xy6 : Int32) (xy7 : Int32) (xy8 : Int32) (xy9 : Int32) (xt0 : Int32) (xt1 : Int32) (xt2 : Int32) (xt3 : Int32) (xt4 : Int32) (xt5 : Int32) (xt6 : Int32) (xt7 : Int32) (xt8 : Int32) (xt9 : Int32) (i1 : Int32) {res : Int32 × Int32 × Int32 × Int32 × Int32 × Int32 × Int32 × Int32 × Int32 × Int32 × Int32 × Int32 × Int32 × Int32 × Int32 × Int32 × Int32 × Int32 × Int32 × Int32 × Int32} (hR : fX6_best xjr xjk xjc xjg xjs xjaf xjbf xwk xt3 xt4 xt5 xt6 xt7 xt8 xt9 i1 = some res) : YM l D cy yX6_best hX6_best 7 0 0 [.ref x, .int i1] [[(x, .inr (6, [.ref xj, .ref xw, .ref xz, .ref xo, .ref xy, .ref xt]))], [(xj, .inr (1, [.ref xja, .ref xjb, .int xjr, .int xjk, .int xjc, .int xjg, .int xjs]))], [(xja, .inr (4, [.ref xjan]))], [(xjan, .inl (cy 1, 81, .inl xjaf))], [(xjb, .inr (4, [.ref xjbn]))], [(xjbn, .inl (cy 1, 81, .inl xjbf))], [(xw, .inr (0, [.ref xwu, .ref xwm, .int xwb, .int xwk]))], [(xy, .inr (2, [.int xy0, .int xy1, .int xy2, .int xy3, .int xy4, .int xy5, .int xy6, .int xy7, .int xy8, .int xy9]))], [(xt, .inr (2, [.int xt0, .int xt1, .int xt2, .int xt3, .int xt4, .int xt5, .int xt6, .int xt7, .int xt8, .int xt9]))]] (fun v u => v = some (.int res.1) ∧ u = [[(x, .inr (6, [.ref xj, .ref xw, .ref xz, .ref xo, .ref xy, .ref xt]))], [(xj, .inr (1, [.ref xja, .ref xjb, .int xjr, .int xjk, .int xjc, .int xjg, .int xjs]))], [(xja, .inr (4, [.ref xjan]))], [(xjan, .inl (cy 1, 81, .inl xjaf))], [(xjb, .inr (4, [.ref xjbn]))], [(xjbn, .inl (cy 1, 81, .inl xjbf))], [(xw, .inr (0, [.ref xwu, .ref xwm, .int xwb, .int xwk]))], [(xy, .inr (2, [.int res.2.1, .int res.2.2.1, .int res.2.2.2.1, .int res.2.2.2.2.1, .int res.2.2.2.2.2.1, .int res.2.2.2.2.2.2.1, .int res.2.2.2.2.2.2.2.1, .int res.2.2.2.2.2.2.2.2.1, .int res.2.2.2.2.2.2.2.2.2.1, .int res.2.2.2.2.2.2.2.2.2.2.1]))], [(xt, .inr (2, [.int res.2.2.2.2.2.2.2.2.2.2.2.1, .int res.2.2.2.2.2.2.2.2.2.2.2.2.1, .int res.2.2.2.2.2.2.2.2.2.2.2.2.2.1, .int res.2.2.2.2.2.2.2.2.2.2.2.2.2.2.1, .int res.2.2.2.2.2.2.2.2.2.2.2.2.2.2.2.1, .int res.2.2.2.2.2.2.2.2.2.2.2.2.2.2.2.2.1, .int res.2.2.2.2.2.2.2.2.2.2.2.2.2.2.2.2.2.1, .int res.2.2.2.2.2.2.2.2.2.2.2.2.2.2.2.2.2.2.1, .int res.2.2.2.2.2.2.2.2.2.2.2.2.2.2.2.2.2.2.2.1, .int res.2.2.2.2.2.2.2.2.2.2.2.2.2.2.2.2.2.2.2.2]))]]) := by
  unfold fX6_best at hR
  refine YM.ofI (cc := cX6_best) (maxL := 2) (ret := (some .int)) (by decide +kernel) rfl (Nat.le_of_ble_eq_true rfl) [(0, .ref x), (1, .int i1)] rfl rfl (fun p e s m args below meth c A H0 Q C hnm ret => ?_)
  refine xr_iload_n (n := 1) (j := 1) C dX6_best_0 rfl rfl ?_
  refine xr_if_lt (tgt := 9) (n := 4) C dX6_best_1 rfl rfl (fun c_1 => ?_) (fun c_1 => ?_)
  · replace hR := yf_t c_1 hR
    cases hR
  · replace hR := yf_f c_1 hR
    refine xr_iload_n (n := 5) (j := 1) C dX6_best_4 rfl rfl ?_
    refine xr_iconst (n := 6) (v := 4) C dX6_best_5 rfl rfl ?_
    refine xr_icmp_le (tgt := 19) (n := 9) C dX6_best_6 rfl rfl (fun c_2 => ?_) (fun c_2 => ?_)
    · replace hR := yf_t c_2 hR
      refine xr_aload_n (n := 20) (j := 0) C dX6_best_19 rfl rfl ?_
      obtain ⟨x_3, hx_3, hR⟩ := yf_b hR
      refine xr_callV (n := 23) (As := []) (rest := []) C (kX6_findBest l D cy (x := x) (xj := xj) (xw := xw) (xz := xz) (xo := xo) (xy := xy) (xt := xt) (xja := xja) (xjb := xjb) (xjr := xjr) (xjk := xjk) (xjc := xjc) (xjg := xjg) (xjs := xjs) (xjan := xjan) (xjaf := xjaf) (xjbn := xjbn) (xjbf := xjbf) (xwu := xwu) (xwm := xwm) (xwb := xwb) (xwk := xwk) (xy0 := xy0) (xy1 := xy1) (xy2 := xy2) (xy3 := xy3) (xy4 := xy4) (xy5 := xy5) (xy6 := xy6) (xy7 := xy7) (xy8 := xy8) (xy9 := xy9) (xt0 := xt0) (xt1 := xt1) (xt2 := xt2) (xt3 := xt3) (xt4 := xt4) (xt5 := xt5) (xt6 := xt6) (xt7 := xt7) (xt8 := xt8) (xt9 := xt9) hx_3) mX6_findBest u_357 u_359 u_1 0 rfl rfl 9 [0, 1, 2, 3, 4, 5, 6, 7, 8] [] rfl (by decide +kernel) rfl rfl rfl rfl (Nat.le_of_ble_eq_true rfl) (Nat.le_of_ble_eq_true rfl) (Nat.le_of_ble_eq_true rfl) (Nat.le_of_ble_eq_true rfl) (Nat.le_of_ble_eq_true rfl) dX6_best_20 rfl (fun v_4 u_5 hp_6 => ?_)
      obtain ⟨rfl, rfl⟩ := hp_6
      refine xr_perm C 9 [0, 1, 2, 3, 4, 5, 6, 7, 8] [] [[(x, .inr (6, [.ref xj, .ref xw, .ref xz, .ref xo, .ref xy, .ref xt]))], [(xj, .inr (1, [.ref xja, .ref xjb, .int xjr, .int xjk, .int xjc, .int xjg, .int xjs]))], [(xja, .inr (4, [.ref xjan]))], [(xjan, .inl (cy 1, 81, .inl xjaf))], [(xjb, .inr (4, [.ref xjbn]))], [(xjbn, .inl (cy 1, 81, .inl xjbf))], [(xw, .inr (0, [.ref xwu, .ref xwm, .int xwb, .int xwk]))], [(xy, .inr (2, [.int x_3.1, .int x_3.2.1, .int x_3.2.2.1, .int x_3.2.2.2.1, .int x_3.2.2.2.2.1, .int x_3.2.2.2.2.2.1, .int x_3.2.2.2.2.2.2.1, .int x_3.2.2.2.2.2.2.2.1, .int x_3.2.2.2.2.2.2.2.2.1, .int x_3.2.2.2.2.2.2.2.2.2.1]))], [(xt, .inr (2, [.int x_3.2.2.2.2.2.2.2.2.2.2.1, .int x_3.2.2.2.2.2.2.2.2.2.2.2.1, .int x_3.2.2.2.2.2.2.2.2.2.2.2.2.1, .int x_3.2.2.2.2.2.2.2.2.2.2.2.2.2.1, .int x_3.2.2.2.2.2.2.2.2.2.2.2.2.2.2.1, .int x_3.2.2.2.2.2.2.2.2.2.2.2.2.2.2.2.1, .int x_3.2.2.2.2.2.2.2.2.2.2.2.2.2.2.2.2.1, .int x_3.2.2.2.2.2.2.2.2.2.2.2.2.2.2.2.2.2.1, .int x_3.2.2.2.2.2.2.2.2.2.2.2.2.2.2.2.2.2.2.1, .int x_3.2.2.2.2.2.2.2.2.2.2.2.2.2.2.2.2.2.2.2]))]] rfl (by decide +kernel) rfl ?_
      refine xr_aload_n (n := 24) (j := 0) C dX6_best_23 rfl rfl ?_
      refine xr_iload_n (n := 25) (j := 1) C dX6_best_24 rfl rfl ?_
      obtain ⟨x_7, hx_7, hR⟩ := yf_b hR
      refine xr_callVp (n := 28) (As := [.int i1]) (rest := []) C (kX6_bestNumber l D cy (x := x) (xj := xj) (xw := xw) (xz := xz) (xo := xo) (xy := xy) (xt := xt) (xy0 := x_3.1) (xy1 := x_3.2.1) (xy2 := x_3.2.2.1) (xy3 := x_3.2.2.2.1) (xy4 := x_3.2.2.2.2.1) (xy5 := x_3.2.2.2.2.2.1) (xy6 := x_3.2.2.2.2.2.2.1) (xy7 := x_3.2.2.2.2.2.2.2.1) (xy8 := x_3.2.2.2.2.2.2.2.2.1) (xy9 := x_3.2.2.2.2.2.2.2.2.2.1) (i1 := i1) hx_7) mX6_bestNumber u_655 u_657 u_18 0 rfl rfl 9 [0, 7] [1, 2, 3, 4, 5, 6, 8] rfl (by decide +kernel) rfl rfl rfl rfl (Nat.le_of_ble_eq_true rfl) (Nat.le_of_ble_eq_true rfl) (Nat.le_of_ble_eq_true rfl) (Nat.le_of_ble_eq_true rfl) (Nat.le_of_ble_eq_true rfl) dX6_best_25 rfl (fun _ _ hp => hp.2) (fun v_8 hp_10 => ?_)
      obtain ⟨rfl, -⟩ := hp_10
      refine xr_st (st' := [.int x_7]) rfl ?_
      obtain rfl := Option.some.inj hR
      exact ret x_7 ⟨rfl, rfl⟩ (Nat.le_of_ble_eq_true rfl) (Nat.le_of_ble_eq_true rfl) dX6_best_28
    · replace hR := yf_f c_2 hR
      cases hR
theorem dX6_isBestSound_0 : decode cX6_isBestSound 0 = .ok (.aload_n 0, 1) := by decide +kernel
theorem dX6_isBestSound_1 : decode cX6_isBestSound 1 = .ok (.getfield 40, 3) := by decide +kernel
theorem dX6_isBestSound_4 : decode cX6_isBestSound 4 = .ok (.invokevirtual 146, 3) := by decide +kernel
theorem dX6_isBestSound_7 : decode cX6_isBestSound 7 = .ok (.ifCond .ne 29, 3) := by decide +kernel
theorem dX6_isBestSound_10 : decode cX6_isBestSound 10 = .ok (.aload_n 0, 1) := by decide +kernel
theorem dX6_isBestSound_11 : decode cX6_isBestSound 11 = .ok (.getfield 19, 3) := by decide +kernel
theorem dX6_isBestSound_14 : decode cX6_isBestSound 14 = .ok (.aload_n 0, 1) := by decide +kernel
theorem dX6_isBestSound_15 : decode cX6_isBestSound 15 = .ok (.getfield 40, 3) := by decide +kernel
theorem dX6_isBestSound_18 : decode cX6_isBestSound 18 = .ok (.getfield 307, 3) := by decide +kernel
theorem dX6_isBestSound_21 : decode cX6_isBestSound 21 = .ok (.aload_n 0, 1) := by decide +kernel
theorem dX6_isBestSound_22 : decode cX6_isBestSound 22 = .ok (.getfield 40, 3) := by decide +kernel
theorem dX6_isBestSound_25 : decode cX6_isBestSound 25 = .ok (.getfield 308, 3) := by decide +kernel
theorem dX6_isBestSound_28 : decode cX6_isBestSound 28 = .ok (.invokevirtual 332, 3) := by decide +kernel
theorem dX6_isBestSound_31 : decode cX6_isBestSound 31 = .ok (.ifCond .eq 5, 3) := by decide +kernel
theorem dX6_isBestSound_34 : decode cX6_isBestSound 34 = .ok (.iconst 0, 1) := by decide +kernel
theorem dX6_isBestSound_35 : decode cX6_isBestSound 35 = .ok (.ireturn, 1) := by decide +kernel
theorem dX6_isBestSound_36 : decode cX6_isBestSound 36 = .ok (.iconst 1, 1) := by decide +kernel
theorem dX6_isBestSound_37 : decode cX6_isBestSound 37 = .ok (.istore_n 1, 1) := by decide +kernel
theorem dX6_isBestSound_38 : decode cX6_isBestSound 38 = .ok (.iload_n 1, 1) := by decide +kernel
theorem dX6_isBestSound_39 : decode cX6_isBestSound 39 = .ok (.bipush 31, 2) := by decide +kernel
theorem dX6_isBestSound_41 : decode cX6_isBestSound 41 = .ok (.if_icmp .gt 58, 3) := by decide +kernel
theorem dX6_isBestSound_44 : decode cX6_isBestSound 44 = .ok (.iconst 1, 1) := by decide +kernel
theorem dX6_isBestSound_45 : decode cX6_isBestSound 45 = .ok (.istore_n 2, 1) := by decide +kernel
theorem dX6_isBestSound_46 : decode cX6_isBestSound 46 = .ok (.iload_n 2, 1) := by decide +kernel
theorem dX6_isBestSound_47 : decode cX6_isBestSound 47 = .ok (.bipush 31, 2) := by decide +kernel
theorem dX6_isBestSound_49 : decode cX6_isBestSound 49 = .ok (.if_icmp .gt 44, 3) := by decide +kernel
theorem dX6_isBestSound_52 : decode cX6_isBestSound 52 = .ok (.aload_n 0, 1) := by decide +kernel
theorem dX6_isBestSound_53 : decode cX6_isBestSound 53 = .ok (.iload_n 1, 1) := by decide +kernel
theorem dX6_isBestSound_54 : decode cX6_isBestSound 54 = .ok (.iload_n 2, 1) := by decide +kernel
theorem dX6_isBestSound_55 : decode cX6_isBestSound 55 = .ok (.invokevirtual 235, 3) := by decide +kernel
theorem dX6_isBestSound_58 : decode cX6_isBestSound 58 = .ok (.istore_n 3, 1) := by decide +kernel
theorem dX6_isBestSound_59 : decode cX6_isBestSound 59 = .ok (.iload_n 3, 1) := by decide +kernel
theorem dX6_isBestSound_60 : decode cX6_isBestSound 60 = .ok (.iconst (-1), 1) := by decide +kernel
theorem dX6_isBestSound_61 : decode cX6_isBestSound 61 = .ok (.if_icmp .eq 26, 3) := by decide +kernel
theorem dX6_isBestSound_64 : decode cX6_isBestSound 64 = .ok (.aload_n 0, 1) := by decide +kernel
theorem dX6_isBestSound_65 : decode cX6_isBestSound 65 = .ok (.getfield 40, 3) := by decide +kernel
theorem dX6_isBestSound_68 : decode cX6_isBestSound 68 = .ok (.invokevirtual 146, 3) := by decide +kernel
theorem dX6_isBestSound_71 : decode cX6_isBestSound 71 = .ok (.ifCond .ne 14, 3) := by decide +kernel
theorem dX6_isBestSound_74 : decode cX6_isBestSound 74 = .ok (.iload_n 3, 1) := by decide +kernel
theorem dX6_isBestSound_75 : decode cX6_isBestSound 75 = .ok (.aload_n 0, 1) := by decide +kernel
theorem dX6_isBestSound_76 : decode cX6_isBestSound 76 = .ok (.getfield 40, 3) := by decide +kernel
theorem dX6_isBestSound_79 : decode cX6_isBestSound 79 = .ok (.getfield 304, 3) := by decide +kernel
theorem dX6_isBestSound_82 : decode cX6_isBestSound 82 = .ok (.if_icmp .ge 5, 3) := by decide +kernel
theorem dX6_isBestSound_85 : decode cX6_isBestSound 85 = .ok (.iconst 0, 1) := by decide +kernel
theorem dX6_isBestSound_86 : decode cX6_isBestSound 86 = .ok (.ireturn, 1) := by decide +kernel
theorem dX6_isBestSound_87 : decode cX6_isBestSound 87 = .ok (.iinc 2 1, 3) := by decide +kernel
theorem dX6_isBestSound_90 : decode cX6_isBestSound 90 = .ok (.goto (-44), 3) := by decide +kernel
theorem dX6_isBestSound_93 : decode cX6_isBestSound 93 = .ok (.iinc 1 1, 3) := by decide +kernel
theorem dX6_isBestSound_96 : decode cX6_isBestSound 96 = .ok (.goto (-58), 3) := by decide +kernel
theorem dX6_isBestSound_99 : decode cX6_isBestSound 99 = .ok (.iconst 1, 1) := by decide +kernel
theorem dX6_isBestSound_100 : decode cX6_isBestSound 100 = .ok (.ireturn, 1) := by decide +kernel
def fX6_isBestSound (xwk : Int32) (xy3 : Int32) (xy4 : Int32) (xy9 : Int32) (xt0 : Int32) (xt1 : Int32) (xt2 : Int32) (xt3 : Int32) (xt4 : Int32) (xt5 : Int32) (xt6 : Int32) (xt7 : Int32) (xt8 : Int32) (xt9 : Int32) : Option (Int32 × Int32 × Int32 × Int32 × Int32 × Int32 × Int32 × Int32) := ((fX2_isEmpty xy3 xy4).bind fun x_1 => (if x_1 = 0 then ((fX0_crossKnown xwk xy3 xy4).bind fun x_27 => (if x_27 = 0 then ((wl (S := Int32 × Int32 × Int32 × Int32 × Int32 × Int32 × Int32 × Int32) (B := (Int32 × Int32 × Int32 × Int32 × Int32 × Int32 × Int32 × Int32) ⊕ (Int32 × Int32 × Int32 × Int32 × Int32 × Int32 × Int32 × Int32)) (fun s_32 => (if 31 < s_32.1 then some (.inr (.inl (s_32.1, s_32.2.1, s_32.2.2.1, s_32.2.2.2.1, s_32.2.2.2.2.1, s_32.2.2.2.2.2.1, s_32.2.2.2.2.2.2.1, s_32.2.2.2.2.2.2.2))) else ((wl (S := Int32 × Int32 × Int32 × Int32 × Int32 × Int32 × Int32 × Int32) (B := (Int32 × Int32 × Int32 × Int32 × Int32 × Int32 × Int32 × Int32) ⊕ (Int32 × Int32 × Int32 × Int32 × Int32 × Int32 × Int32 × Int32)) (fun s_35 => (if 31 < s_35.1 then some (.inr (.inl (s_35.1, s_35.2.1, s_35.2.2.1, s_35.2.2.2.1, s_35.2.2.2.2.1, s_35.2.2.2.2.2.1, s_35.2.2.2.2.2.2.1, s_35.2.2.2.2.2.2.2))) else ((fX6_beatsOn xwk xt0 xt1 xt2 s_35.2.1 s_35.2.2.1 s_35.2.2.2.1 s_35.2.2.2.2.1 s_35.2.2.2.2.2.1 s_35.2.2.2.2.2.2.1 s_35.2.2.2.2.2.2.2 s_32.1 s_35.1).bind fun x_38 => (if x_38.1 = (-1) then some (.inl (s_35.1 + 1, x_38.2.1, x_38.2.2.1, x_38.2.2.2.1, x_38.2.2.2.2.1, x_38.2.2.2.2.2.1, x_38.2.2.2.2.2.2.1, x_38.2.2.2.2.2.2.2)) else ((fX2_isEmpty xy3 xy4).bind fun x_43 => (if x_43 = 0 then (if xy9 ≤ x_38.1 then some (.inl (s_35.1 + 1, x_38.2.1, x_38.2.2.1, x_38.2.2.2.1, x_38.2.2.2.2.1, x_38.2.2.2.2.2.1, x_38.2.2.2.2.2.2.1, x_38.2.2.2.2.2.2.2)) else some (.inr (.inr (0, x_38.2.1, x_38.2.2.1, x_38.2.2.2.1, x_38.2.2.2.2.1, x_38.2.2.2.2.2.1, x_38.2.2.2.2.2.2.1, x_38.2.2.2.2.2.2.2)))) else some (.inr (.inr (0, x_38.2.1, x_38.2.2.1, x_38.2.2.2.1, x_38.2.2.2.2.1, x_38.2.2.2.2.2.1, x_38.2.2.2.2.2.2.1, x_38.2.2.2.2.2.2.2))))))))) yFuel (1, s_32.2.1, s_32.2.2.1, s_32.2.2.2.1, s_32.2.2.2.2.1, s_32.2.2.2.2.2.1, s_32.2.2.2.2.2.2.1, s_32.2.2.2.2.2.2.2)).bind fun b_35 => ybr b_35 (fun z_35 => some (.inl (s_32.1 + 1, z_35.2.1, z_35.2.2.1, z_35.2.2.2.1, z_35.2.2.2.2.1, z_35.2.2.2.2.2.1, z_35.2.2.2.2.2.2.1, z_35.2.2.2.2.2.2.2))) (fun r => some (.inr (.inr r)))))) yFuel (1, xt3, xt4, xt5, xt6, xt7, xt8, xt9)).bind fun b_32 => ybr b_32 (fun z_32 => some (1, z_32.2.1, z_32.2.2.1, z_32.2.2.2.1, z_32.2.2.2.2.1, z_32.2.2.2.2.2.1, z_32.2.2.2.2.2.2.1, z_32.2.2.2.2.2.2.2)) (fun r => some r)) else some (0, xt3, xt4, xt5, xt6, xt7, xt8, xt9))) else ((wl (S := Int32 × Int32 × Int32 × Int32 × Int32 × Int32 × Int32 × Int32) (B := (Int32 × Int32 × Int32 × Int32 × Int32 × Int32 × Int32 × Int32) ⊕ (Int32 × Int32 × Int32 × Int32 × Int32 × Int32 × Int32 × Int32)) (fun s_6 => (if 31 < s_6.1 then some (.inr (.inl (s_6.1, s_6.2.1, s_6.2.2.1, s_6.2.2.2.1, s_6.2.2.2.2.1, s_6.2.2.2.2.2.1, s_6.2.2.2.2.2.2.1, s_6.2.2.2.2.2.2.2))) else ((wl (S := Int32 × Int32 × Int32 × Int32 × Int32 × Int32 × Int32 × Int32) (B := (Int32 × Int32 × Int32 × Int32 × Int32 × Int32 × Int32 × Int32) ⊕ (Int32 × Int32 × Int32 × Int32 × Int32 × Int32 × Int32 × Int32)) (fun s_9 => (if 31 < s_9.1 then some (.inr (.inl (s_9.1, s_9.2.1, s_9.2.2.1, s_9.2.2.2.1, s_9.2.2.2.2.1, s_9.2.2.2.2.2.1, s_9.2.2.2.2.2.2.1, s_9.2.2.2.2.2.2.2))) else ((fX6_beatsOn xwk xt0 xt1 xt2 s_9.2.1 s_9.2.2.1 s_9.2.2.2.1 s_9.2.2.2.2.1 s_9.2.2.2.2.2.1 s_9.2.2.2.2.2.2.1 s_9.2.2.2.2.2.2.2 s_6.1 s_9.1).bind fun x_12 => (if x_12.1 = (-1) then some (.inl (s_9.1 + 1, x_12.2.1, x_12.2.2.1, x_12.2.2.2.1, x_12.2.2.2.2.1, x_12.2.2.2.2.2.1, x_12.2.2.2.2.2.2.1, x_12.2.2.2.2.2.2.2)) else ((fX2_isEmpty xy3 xy4).bind fun x_17 => (if x_17 = 0 then (if xy9 ≤ x_12.1 then some (.inl (s_9.1 + 1, x_12.2.1, x_12.2.2.1, x_12.2.2.2.1, x_12.2.2.2.2.1, x_12.2.2.2.2.2.1, x_12.2.2.2.2.2.2.1, x_12.2.2.2.2.2.2.2)) else some (.inr (.inr (0, x_12.2.1, x_12.2.2.1, x_12.2.2.2.1, x_12.2.2.2.2.1, x_12.2.2.2.2.2.1, x_12.2.2.2.2.2.2.1, x_12.2.2.2.2.2.2.2)))) else some (.inr (.inr (0, x_12.2.1, x_12.2.2.1, x_12.2.2.2.1, x_12.2.2.2.2.1, x_12.2.2.2.2.2.1, x_12.2.2.2.2.2.2.1, x_12.2.2.2.2.2.2.2))))))))) yFuel (1, s_6.2.1, s_6.2.2.1, s_6.2.2.2.1, s_6.2.2.2.2.1, s_6.2.2.2.2.2.1, s_6.2.2.2.2.2.2.1, s_6.2.2.2.2.2.2.2)).bind fun b_9 => ybr b_9 (fun z_9 => some (.inl (s_6.1 + 1, z_9.2.1, z_9.2.2.1, z_9.2.2.2.1, z_9.2.2.2.2.1, z_9.2.2.2.2.2.1, z_9.2.2.2.2.2.2.1, z_9.2.2.2.2.2.2.2))) (fun r => some (.inr (.inr r)))))) yFuel (1, xt3, xt4, xt5, xt6, xt7, xt8, xt9)).bind fun b_6 => ybr b_6 (fun z_6 => some (1, z_6.2.1, z_6.2.2.1, z_6.2.2.2.1, z_6.2.2.2.2.1, z_6.2.2.2.2.2.1, z_6.2.2.2.2.2.2.1, z_6.2.2.2.2.2.2.2)) (fun r => some r))))
abbrev hX6_isBestSound : Cond := .code yX6_isBestSound cX6_isBestSound 4 (some .boolean)
theorem mX6_isBestSound : yM yX6_isBestSound hX6_isBestSound 0 := ⟨u_675, u_28, by decide +kernel, by decide +kernel, by decide +kernel⟩
set_option maxHeartbeats 4000000 in
set_option maxRecDepth 100000 in
theorem kX6_isBestSound (l : Launch) (D : va_G) (cy : Nat → ClassId) (x : Nat) (xj : Nat) (xw : Nat) (xz : Nat) (xo : Nat) (xy : Nat) (xt : Nat) (xwu : Nat) (xwm : Nat) (xwb : Int32) (xwk : Int32) (xy0 : Int32) (xy1 : Int32) (xy2 : Int32) (xy3 : Int32) (xy4 : Int32) (xy5 : Int32) (xy6 : Int32) (xy7 : Int32) (xy8 : Int32) (xy9 : Int32) (xt0 : Int32) (xt1 : Int32) (xt2 : Int32) (xt3 : Int32) (xt4 : Int32) (xt5 : Int32) (xt6 : Int32) (xt7 : Int32) (xt8 : Int32) (xt9 : Int32) {res : Int32 × Int32 × Int32 × Int32 × Int32 × Int32 × Int32 × Int32} (hR : fX6_isBestSound xwk xy3 xy4 xy9 xt0 xt1 xt2 xt3 xt4 xt5 xt6 xt7 xt8 xt9 = some res) : YM l D cy yX6_isBestSound hX6_isBestSound 4 0 0 [.ref x] [[(x, .inr (6, [.ref xj, .ref xw, .ref xz, .ref xo, .ref xy, .ref xt]))], [(xw, .inr (0, [.ref xwu, .ref xwm, .int xwb, .int xwk]))], [(xy, .inr (2, [.int xy0, .int xy1, .int xy2, .int xy3, .int xy4, .int xy5, .int xy6, .int xy7, .int xy8, .int xy9]))], [(xt, .inr (2, [.int xt0, .int xt1, .int xt2, .int xt3, .int xt4, .int xt5, .int xt6, .int xt7, .int xt8, .int xt9]))]] (fun v u => v = some (.int res.1) ∧ u = [[(x, .inr (6, [.ref xj, .ref xw, .ref xz, .ref xo, .ref xy, .ref xt]))], [(xw, .inr (0, [.ref xwu, .ref xwm, .int xwb, .int xwk]))], [(xy, .inr (2, [.int xy0, .int xy1, .int xy2, .int xy3, .int xy4, .int xy5, .int xy6, .int xy7, .int xy8, .int xy9]))], [(xt, .inr (2, [.int xt0, .int xt1, .int xt2, .int res.2.1, .int res.2.2.1, .int res.2.2.2.1, .int res.2.2.2.2.1, .int res.2.2.2.2.2.1, .int res.2.2.2.2.2.2.1, .int res.2.2.2.2.2.2.2]))]]) := by
  unfold fX6_isBestSound at hR
  refine YM.ofZ (cc := cX6_isBestSound) (maxL := 4) (ret := (some .boolean)) (by decide +kernel) rfl (Nat.le_of_ble_eq_true rfl) [(0, .ref x)] rfl .boolean rfl (fun p e s m args below meth c A H0 Q C hnm ret => ?_)
  refine xr_aload_n (n := 1) (j := 0) C dX6_isBestSound_0 rfl rfl ?_
  refine xr_get (n := 4) C 0 rfl rfl 4 (by decide) in_X6 u_252 rfl (v := .ref xy) rfl dX6_isBestSound_1 rfl ?_
  obtain ⟨x_1, hx_1, hR⟩ := yf_b hR
  refine xr_callVp (n := 7) (As := []) (rest := []) C (kX2_isEmpty l D cy (y := xy) (y0 := xy0) (y1 := xy1) (y2 := xy2) (y3 := xy3) (y4 := xy4) (y5 := xy5) (y6 := xy6) (y7 := xy7) (y8 := xy8) (y9 := xy9) hx_1) mX2_isEmpty u_418 u_419 u_420 2 rfl rfl 4 [2] [0, 1, 3] rfl (by decide +kernel) rfl rfl rfl rfl (Nat.le_of_ble_eq_true rfl) (Nat.le_of_ble_eq_true rfl) (Nat.le_of_ble_eq_true rfl) (Nat.le_of_ble_eq_true rfl) (Nat.le_of_ble_eq_true rfl) dX6_isBestSound_4 rfl (fun _ _ hp => hp.2) (fun v_2 hp_4 => ?_)
  obtain ⟨rfl, -⟩ := hp_4
  refine xr_st (st' := [.int x_1]) rfl ?_
  refine xr_if_ne (tgt := 36) (n := 10) C dX6_isBestSound_7 rfl rfl (fun c_5 => ?_) (fun c_5 => ?_)
  · replace hR := yf_f c_5 hR
    refine xr_iconst (n := 37) (v := 1) C dX6_isBestSound_36 rfl rfl ?_
    refine xr_istore_n (n := 38) C [(1, .int 1), (0, .ref x)] dX6_isBestSound_37 (by decide) rfl rfl ?_
    refine xr_lv (lv' := [(0, .ref x), (1, .int 1)]) [1, 0] rfl ?_
    obtain ⟨b_6, hb_6, hR⟩ := yf_b hR
    have K_6 : ∀ z_6, b_6 = .inl z_6 → X p l e (yR 4 0 0) s m args below meth c D A H0 4 Q [[(x, .inr (6, [.ref xj, .ref xw, .ref xz, .ref xo, .ref xy, .ref xt]))], [(xw, .inr (0, [.ref xwu, .ref xwm, .int xwb, .int xwk]))], [(xy, .inr (2, [.int xy0, .int xy1, .int xy2, .int xy3, .int xy4, .int xy5, .int xy6, .int xy7, .int xy8, .int xy9]))], [(xt, .inr (2, [.int xt0, .int xt1, .int xt2, .int z_6.2.1, .int z_6.2.2.1, .int z_6.2.2.2.1, .int z_6.2.2.2.2.1, .int z_6.2.2.2.2.2.1, .int z_6.2.2.2.2.2.2.1, .int z_6.2.2.2.2.2.2.2]))]] 0 0 [] 99 [] := by
      intro z_6 e_6; subst e_6; replace hR := ybr_l hR
      refine xr_iconst (n := 100) (v := 1) C dX6_isBestSound_99 rfl rfl ?_
      obtain rfl := Option.some.inj hR
      exact ret 1 (by decide) ⟨rfl, rfl⟩ (Nat.le_of_ble_eq_true rfl) (Nat.le_of_ble_eq_true rfl) dX6_isBestSound_100
    refine y_loop (P := fun s_6 => X p l e (yR 4 0 0) s m args below meth c D A H0 4 Q [[(x, .inr (6, [.ref xj, .ref xw, .ref xz, .ref xo, .ref xy, .ref xt]))], [(xw, .inr (0, [.ref xwu, .ref xwm, .int xwb, .int xwk]))], [(xy, .inr (2, [.int xy0, .int xy1, .int xy2, .int xy3, .int xy4, .int xy5, .int xy6, .int xy7, .int xy8, .int xy9]))], [(xt, .inr (2, [.int xt0, .int xt1, .int xt2, .int s_6.2.1, .int s_6.2.2.1, .int s_6.2.2.2.1, .int s_6.2.2.2.2.1, .int s_6.2.2.2.2.2.1, .int s_6.2.2.2.2.2.2.1, .int s_6.2.2.2.2.2.2.2]))]] 0 0 [(0, .ref x), (1, .int s_6.1)] 38 []) ?_ _ _ hb_6
    intro s_6 o_6 ho_6 hk_6 hx_6
    refine xr_iload_n (n := 39) (j := 1) C dX6_isBestSound_38 rfl rfl ?_
    refine xr_bipush (n := 41) (v := 31) C dX6_isBestSound_39 rfl rfl ?_
    refine xr_icmp_gt (tgt := 99) (n := 44) C dX6_isBestSound_41 rfl rfl (fun c_7 => ?_) (fun c_7 => ?_)
    · replace ho_6 := yf_t c_7 ho_6
      refine xr_lv (lv' := []) [] rfl ?_
      have e_8 := hx_6 _ (Option.some.inj ho_6).symm
      exact K_6 _ e_8.symm
    · replace ho_6 := yf_f c_7 ho_6
      refine xr_iconst (n := 45) (v := 1) C dX6_isBestSound_44 rfl rfl ?_
      refine xr_istore_n (n := 46) C [(2, .int 1), (0, .ref x), (1, .int s_6.1)] dX6_isBestSound_45 (by decide) rfl rfl ?_
      refine xr_lv (lv' := [(0, .ref x), (1, .int s_6.1), (2, .int 1)]) [1, 2, 0] rfl ?_
      obtain ⟨b_9, hb_9, ho_6⟩ := yf_b ho_6
      have K_9 : ∀ z_9, b_9 = .inl z_9 → X p l e (yR 4 0 0) s m args below meth c D A H0 4 Q [[(x, .inr (6, [.ref xj, .ref xw, .ref xz, .ref xo, .ref xy, .ref xt]))], [(xw, .inr (0, [.ref xwu, .ref xwm, .int xwb, .int xwk]))], [(xy, .inr (2, [.int xy0, .int xy1, .int xy2, .int xy3, .int xy4, .int xy5, .int xy6, .int xy7, .int xy8, .int xy9]))], [(xt, .inr (2, [.int xt0, .int xt1, .int xt2, .int z_9.2.1, .int z_9.2.2.1, .int z_9.2.2.2.1, .int z_9.2.2.2.2.1, .int z_9.2.2.2.2.2.1, .int z_9.2.2.2.2.2.2.1, .int z_9.2.2.2.2.2.2.2]))]] 0 0 [(0, .ref x), (1, .int s_6.1)] 93 [] := by
        intro z_9 e_9; subst e_9; replace ho_6 := ybr_l ho_6
        refine xr_iinc (j := 1) (v := s_6.1 + 1) (n := 96) C [(1, .int (s_6.1 + 1)), (0, .ref x)] dX6_isBestSound_93 rfl rfl (by decide) rfl rfl ?_
        refine xr_goto (tgt := 38) C dX6_isBestSound_96 rfl ?_
        refine xr_lv (lv' := [(0, .ref x), (1, .int (s_6.1 + 1))]) [1, 0] rfl ?_
        exact hk_6 _ (Option.some.inj ho_6).symm
      refine y_loop (P := fun s_9 => X p l e (yR 4 0 0) s m args below meth c D A H0 4 Q [[(x, .inr (6, [.ref xj, .ref xw, .ref xz, .ref xo, .ref xy, .ref xt]))], [(xw, .inr (0, [.ref xwu, .ref xwm, .int xwb, .int xwk]))], [(xy, .inr (2, [.int xy0, .int xy1, .int xy2, .int xy3, .int xy4, .int xy5, .int xy6, .int xy7, .int xy8, .int xy9]))], [(xt, .inr (2, [.int xt0, .int xt1, .int xt2, .int s_9.2.1, .int s_9.2.2.1, .int s_9.2.2.2.1, .int s_9.2.2.2.2.1, .int s_9.2.2.2.2.2.1, .int s_9.2.2.2.2.2.2.1, .int s_9.2.2.2.2.2.2.2]))]] 0 0 [(0, .ref x), (1, .int s_6.1), (2, .int s_9.1)] 46 []) ?_ _ _ hb_9
      intro s_9 o_9 ho_9 hk_9 hx_9
      refine xr_iload_n (n := 47) (j := 2) C dX6_isBestSound_46 rfl rfl ?_
      refine xr_bipush (n := 49) (v := 31) C dX6_isBestSound_47 rfl rfl ?_
      refine xr_icmp_gt (tgt := 93) (n := 52) C dX6_isBestSound_49 rfl rfl (fun c_10 => ?_) (fun c_10 => ?_)
      · replace ho_9 := yf_t c_10 ho_9
        refine xr_lv (lv' := [(0, .ref x), (1, .int s_6.1)]) [0, 1] rfl ?_
        have e_11 := hx_9 _ (Option.some.inj ho_9).symm
        exact K_9 _ e_11.symm
      · replace ho_9 := yf_f c_10 ho_9
        refine xr_aload_n (n := 53) (j := 0) C dX6_isBestSound_52 rfl rfl ?_
        refine xr_iload_n (n := 54) (j := 1) C dX6_isBestSound_53 rfl rfl ?_
        refine xr_iload_n (n := 55) (j := 2) C dX6_isBestSound_54 rfl rfl ?_
        obtain ⟨x_12, hx_12, ho_9⟩ := yf_b ho_9
        refine xr_callV (n := 58) (As := [.int s_6.1, .int s_9.1]) (rest := []) C (kX6_beatsOn l D cy (x := x) (xj := xj) (xw := xw) (xz := xz) (xo := xo) (xy := xy) (xt := xt) (xwu := xwu) (xwm := xwm) (xwb := xwb) (xwk := xwk) (xt0 := xt0) (xt1 := xt1) (xt2 := xt2) (xt3 := s_9.2.1) (xt4 := s_9.2.2.1) (xt5 := s_9.2.2.2.1) (xt6 := s_9.2.2.2.2.1) (xt7 := s_9.2.2.2.2.2.1) (xt8 := s_9.2.2.2.2.2.2.1) (xt9 := s_9.2.2.2.2.2.2.2) (i1 := s_6.1) (i2 := s_9.1) hx_12) mX6_beatsOn u_641 u_643 u_17 0 rfl rfl 4 [0, 1, 3] [2] rfl (by decide +kernel) rfl rfl rfl rfl (Nat.le_of_ble_eq_true rfl) (Nat.le_of_ble_eq_true rfl) (Nat.le_of_ble_eq_true rfl) (Nat.le_of_ble_eq_true rfl) (Nat.le_of_ble_eq_true rfl) dX6_isBestSound_55 rfl (fun v_13 u_14 hp_15 => ?_)
        obtain ⟨rfl, rfl⟩ := hp_15
        refine xr_perm C 4 [0, 1, 3, 2] [] [[(x, .inr (6, [.ref xj, .ref xw, .ref xz, .ref xo, .ref xy, .ref xt]))], [(xw, .inr (0, [.ref xwu, .ref xwm, .int xwb, .int xwk]))], [(xy, .inr (2, [.int xy0, .int xy1, .int xy2, .int xy3, .int xy4, .int xy5, .int xy6, .int xy7, .int xy8, .int xy9]))], [(xt, .inr (2, [.int xt0, .int xt1, .int xt2, .int x_12.2.1, .int x_12.2.2.1, .int x_12.2.2.2.1, .int x_12.2.2.2.2.1, .int x_12.2.2.2.2.2.1, .int x_12.2.2.2.2.2.2.1, .int x_12.2.2.2.2.2.2.2]))]] rfl (by decide +kernel) rfl ?_
        refine xr_st (st' := [.int x_12.1]) rfl ?_
        refine xr_istore_n (n := 59) C [(3, .int x_12.1), (0, .ref x), (1, .int s_6.1), (2, .int s_9.1)] dX6_isBestSound_58 (by decide) rfl rfl ?_
        refine xr_iload_n (n := 60) (j := 0) C dX6_isBestSound_59 rfl rfl ?_
        refine xr_iconst (n := 61) (v := -1) C dX6_isBestSound_60 rfl rfl ?_
        refine xr_icmp_eq (tgt := 87) (n := 64) C dX6_isBestSound_61 rfl rfl (fun c_16 => ?_) (fun c_16 => ?_)
        · replace ho_9 := yf_t c_16 ho_9
          refine xr_iinc (j := 3) (v := s_9.1 + 1) (n := 90) C [(2, .int (s_9.1 + 1)), (3, .int x_12.1), (0, .ref x), (1, .int s_6.1)] dX6_isBestSound_87 rfl rfl (by decide) rfl rfl ?_
          refine xr_goto (tgt := 46) C dX6_isBestSound_90 rfl ?_
          refine xr_lv (lv' := [(0, .ref x), (1, .int s_6.1), (2, .int (s_9.1 + 1))]) [2, 3, 0] rfl ?_
          exact hk_9 _ (Option.some.inj ho_9).symm
        · replace ho_9 := yf_f c_16 ho_9
          refine xr_aload_n (n := 65) (j := 1) C dX6_isBestSound_64 rfl rfl ?_
          refine xr_get (n := 68) C 0 rfl rfl 4 (by decide) in_X6 u_252 rfl (v := .ref xy) rfl dX6_isBestSound_65 rfl ?_
          obtain ⟨x_17, hx_17, ho_9⟩ := yf_b ho_9
          refine xr_callVp (n := 71) (As := []) (rest := []) C (kX2_isEmpty l D cy (y := xy) (y0 := xy0) (y1 := xy1) (y2 := xy2) (y3 := xy3) (y4 := xy4) (y5 := xy5) (y6 := xy6) (y7 := xy7) (y8 := xy8) (y9 := xy9) hx_17) mX2_isEmpty u_418 u_419 u_420 2 rfl rfl 4 [2] [0, 1, 3] rfl (by decide +kernel) rfl rfl rfl rfl (Nat.le_of_ble_eq_true rfl) (Nat.le_of_ble_eq_true rfl) (Nat.le_of_ble_eq_true rfl) (Nat.le_of_ble_eq_true rfl) (Nat.le_of_ble_eq_true rfl) dX6_isBestSound_68 rfl (fun _ _ hp => hp.2) (fun v_18 hp_20 => ?_)
          obtain ⟨rfl, -⟩ := hp_20
          refine xr_st (st' := [.int x_17]) rfl ?_
          refine xr_if_ne (tgt := 85) (n := 74) C dX6_isBestSound_71 rfl rfl (fun c_21 => ?_) (fun c_21 => ?_)
          · replace ho_9 := yf_f c_21 ho_9
            refine xr_iconst (n := 86) (v := 0) C dX6_isBestSound_85 rfl rfl ?_
            have e_22 := hx_9 _ (Option.some.inj ho_9).symm
            subst e_22
            replace ho_6 := ybr_r ho_6
            have e_23 := hx_6 _ (Option.some.inj ho_6).symm
            subst e_23
            replace hR := ybr_r hR
            obtain rfl := Option.some.inj hR
            exact ret 0 (by decide) ⟨rfl, rfl⟩ (Nat.le_of_ble_eq_true rfl) (Nat.le_of_ble_eq_true rfl) dX6_isBestSound_86
          · replace ho_9 := yf_t c_21 ho_9
            refine xr_iload_n (n := 75) (j := 0) C dX6_isBestSound_74 rfl rfl ?_
            refine xr_aload_n (n := 76) (j := 1) C dX6_isBestSound_75 rfl rfl ?_
            refine xr_get (n := 79) C 0 rfl rfl 4 (by decide) in_X6 u_252 rfl (v := .ref xy) rfl dX6_isBestSound_76 rfl ?_
            refine xr_getN (n := 82) C 2 rfl rfl 9 (by decide) in_X2 RX6 (List.mem_of_getElem? (i := 38) rfl) rfl (v := .int xy9) rfl dX6_isBestSound_79 rfl ?_
            refine xr_icmp_ge (tgt := 87) (n := 85) C dX6_isBestSound_82 rfl rfl (fun c_24 => ?_) (fun c_24 => ?_)
            · replace ho_9 := yf_t c_24 ho_9
              refine xr_iinc (j := 3) (v := s_9.1 + 1) (n := 90) C [(2, .int (s_9.1 + 1)), (3, .int x_12.1), (0, .ref x), (1, .int s_6.1)] dX6_isBestSound_87 rfl rfl (by decide) rfl rfl ?_
              refine xr_goto (tgt := 46) C dX6_isBestSound_90 rfl ?_
              refine xr_lv (lv' := [(0, .ref x), (1, .int s_6.1), (2, .int (s_9.1 + 1))]) [2, 3, 0] rfl ?_
              exact hk_9 _ (Option.some.inj ho_9).symm
            · replace ho_9 := yf_f c_24 ho_9
              refine xr_iconst (n := 86) (v := 0) C dX6_isBestSound_85 rfl rfl ?_
              have e_25 := hx_9 _ (Option.some.inj ho_9).symm
              subst e_25
              replace ho_6 := ybr_r ho_6
              have e_26 := hx_6 _ (Option.some.inj ho_6).symm
              subst e_26
              replace hR := ybr_r hR
              obtain rfl := Option.some.inj hR
              exact ret 0 (by decide) ⟨rfl, rfl⟩ (Nat.le_of_ble_eq_true rfl) (Nat.le_of_ble_eq_true rfl) dX6_isBestSound_86
  · replace hR := yf_t c_5 hR
    refine xr_aload_n (n := 11) (j := 0) C dX6_isBestSound_10 rfl rfl ?_
    refine xr_get (n := 14) C 0 rfl rfl 1 (by decide) in_X6 u_249 rfl (v := .ref xw) rfl dX6_isBestSound_11 rfl ?_
    refine xr_aload_n (n := 15) (j := 0) C dX6_isBestSound_14 rfl rfl ?_
    refine xr_get (n := 18) C 0 rfl rfl 4 (by decide) in_X6 u_252 rfl (v := .ref xy) rfl dX6_isBestSound_15 rfl ?_
    refine xr_getN (n := 21) C 2 rfl rfl 3 (by decide) in_X2 RX6 (List.mem_of_getElem? (i := 32) rfl) rfl (v := .int xy3) rfl dX6_isBestSound_18 rfl ?_
    refine xr_aload_n (n := 22) (j := 0) C dX6_isBestSound_21 rfl rfl ?_
    refine xr_get (n := 25) C 0 rfl rfl 4 (by decide) in_X6 u_252 rfl (v := .ref xy) rfl dX6_isBestSound_22 rfl ?_
    refine xr_getN (n := 28) C 2 rfl rfl 4 (by decide) in_X2 RX6 (List.mem_of_getElem? (i := 34) rfl) rfl (v := .int xy4) rfl dX6_isBestSound_25 rfl ?_
    obtain ⟨x_27, hx_27, hR⟩ := yf_b hR
    refine xr_callVp (n := 31) (As := [.int xy3, .int xy4]) (rest := []) C (kX0_crossKnown l D cy (w := xw) (wu := xwu) (wm := xwm) (wb := xwb) (wk := xwk) (i1 := xy3) (i2 := xy4) hx_27) mX0_crossKnown u_645 u_646 u_647 1 rfl rfl 4 [1] [0, 2, 3] rfl (by decide +kernel) rfl rfl rfl rfl (Nat.le_of_ble_eq_true rfl) (Nat.le_of_ble_eq_true rfl) (Nat.le_of_ble_eq_true rfl) (Nat.le_of_ble_eq_true rfl) (Nat.le_of_ble_eq_true rfl) dX6_isBestSound_28 rfl (fun _ _ hp => hp.2) (fun v_28 hp_30 => ?_)
    obtain ⟨rfl, -⟩ := hp_30
    refine xr_st (st' := [.int x_27]) rfl ?_
    refine xr_if_eq (tgt := 36) (n := 34) C dX6_isBestSound_31 rfl rfl (fun c_31 => ?_) (fun c_31 => ?_)
    · replace hR := yf_t c_31 hR
      refine xr_iconst (n := 37) (v := 1) C dX6_isBestSound_36 rfl rfl ?_
      refine xr_istore_n (n := 38) C [(1, .int 1), (0, .ref x)] dX6_isBestSound_37 (by decide) rfl rfl ?_
      refine xr_lv (lv' := [(0, .ref x), (1, .int 1)]) [1, 0] rfl ?_
      obtain ⟨b_32, hb_32, hR⟩ := yf_b hR
      have K_32 : ∀ z_32, b_32 = .inl z_32 → X p l e (yR 4 0 0) s m args below meth c D A H0 4 Q [[(x, .inr (6, [.ref xj, .ref xw, .ref xz, .ref xo, .ref xy, .ref xt]))], [(xw, .inr (0, [.ref xwu, .ref xwm, .int xwb, .int xwk]))], [(xy, .inr (2, [.int xy0, .int xy1, .int xy2, .int xy3, .int xy4, .int xy5, .int xy6, .int xy7, .int xy8, .int xy9]))], [(xt, .inr (2, [.int xt0, .int xt1, .int xt2, .int z_32.2.1, .int z_32.2.2.1, .int z_32.2.2.2.1, .int z_32.2.2.2.2.1, .int z_32.2.2.2.2.2.1, .int z_32.2.2.2.2.2.2.1, .int z_32.2.2.2.2.2.2.2]))]] 0 0 [] 99 [] := by
        intro z_32 e_32; subst e_32; replace hR := ybr_l hR
        refine xr_iconst (n := 100) (v := 1) C dX6_isBestSound_99 rfl rfl ?_
        obtain rfl := Option.some.inj hR
        exact ret 1 (by decide) ⟨rfl, rfl⟩ (Nat.le_of_ble_eq_true rfl) (Nat.le_of_ble_eq_true rfl) dX6_isBestSound_100
      refine y_loop (P := fun s_32 => X p l e (yR 4 0 0) s m args below meth c D A H0 4 Q [[(x, .inr (6, [.ref xj, .ref xw, .ref xz, .ref xo, .ref xy, .ref xt]))], [(xw, .inr (0, [.ref xwu, .ref xwm, .int xwb, .int xwk]))], [(xy, .inr (2, [.int xy0, .int xy1, .int xy2, .int xy3, .int xy4, .int xy5, .int xy6, .int xy7, .int xy8, .int xy9]))], [(xt, .inr (2, [.int xt0, .int xt1, .int xt2, .int s_32.2.1, .int s_32.2.2.1, .int s_32.2.2.2.1, .int s_32.2.2.2.2.1, .int s_32.2.2.2.2.2.1, .int s_32.2.2.2.2.2.2.1, .int s_32.2.2.2.2.2.2.2]))]] 0 0 [(0, .ref x), (1, .int s_32.1)] 38 []) ?_ _ _ hb_32
      intro s_32 o_32 ho_32 hk_32 hx_32
      refine xr_iload_n (n := 39) (j := 1) C dX6_isBestSound_38 rfl rfl ?_
      refine xr_bipush (n := 41) (v := 31) C dX6_isBestSound_39 rfl rfl ?_
      refine xr_icmp_gt (tgt := 99) (n := 44) C dX6_isBestSound_41 rfl rfl (fun c_33 => ?_) (fun c_33 => ?_)
      · replace ho_32 := yf_t c_33 ho_32
        refine xr_lv (lv' := []) [] rfl ?_
        have e_34 := hx_32 _ (Option.some.inj ho_32).symm
        exact K_32 _ e_34.symm
      · replace ho_32 := yf_f c_33 ho_32
        refine xr_iconst (n := 45) (v := 1) C dX6_isBestSound_44 rfl rfl ?_
        refine xr_istore_n (n := 46) C [(2, .int 1), (0, .ref x), (1, .int s_32.1)] dX6_isBestSound_45 (by decide) rfl rfl ?_
        refine xr_lv (lv' := [(0, .ref x), (1, .int s_32.1), (2, .int 1)]) [1, 2, 0] rfl ?_
        obtain ⟨b_35, hb_35, ho_32⟩ := yf_b ho_32
        have K_35 : ∀ z_35, b_35 = .inl z_35 → X p l e (yR 4 0 0) s m args below meth c D A H0 4 Q [[(x, .inr (6, [.ref xj, .ref xw, .ref xz, .ref xo, .ref xy, .ref xt]))], [(xw, .inr (0, [.ref xwu, .ref xwm, .int xwb, .int xwk]))], [(xy, .inr (2, [.int xy0, .int xy1, .int xy2, .int xy3, .int xy4, .int xy5, .int xy6, .int xy7, .int xy8, .int xy9]))], [(xt, .inr (2, [.int xt0, .int xt1, .int xt2, .int z_35.2.1, .int z_35.2.2.1, .int z_35.2.2.2.1, .int z_35.2.2.2.2.1, .int z_35.2.2.2.2.2.1, .int z_35.2.2.2.2.2.2.1, .int z_35.2.2.2.2.2.2.2]))]] 0 0 [(0, .ref x), (1, .int s_32.1)] 93 [] := by
          intro z_35 e_35; subst e_35; replace ho_32 := ybr_l ho_32
          refine xr_iinc (j := 1) (v := s_32.1 + 1) (n := 96) C [(1, .int (s_32.1 + 1)), (0, .ref x)] dX6_isBestSound_93 rfl rfl (by decide) rfl rfl ?_
          refine xr_goto (tgt := 38) C dX6_isBestSound_96 rfl ?_
          refine xr_lv (lv' := [(0, .ref x), (1, .int (s_32.1 + 1))]) [1, 0] rfl ?_
          exact hk_32 _ (Option.some.inj ho_32).symm
        refine y_loop (P := fun s_35 => X p l e (yR 4 0 0) s m args below meth c D A H0 4 Q [[(x, .inr (6, [.ref xj, .ref xw, .ref xz, .ref xo, .ref xy, .ref xt]))], [(xw, .inr (0, [.ref xwu, .ref xwm, .int xwb, .int xwk]))], [(xy, .inr (2, [.int xy0, .int xy1, .int xy2, .int xy3, .int xy4, .int xy5, .int xy6, .int xy7, .int xy8, .int xy9]))], [(xt, .inr (2, [.int xt0, .int xt1, .int xt2, .int s_35.2.1, .int s_35.2.2.1, .int s_35.2.2.2.1, .int s_35.2.2.2.2.1, .int s_35.2.2.2.2.2.1, .int s_35.2.2.2.2.2.2.1, .int s_35.2.2.2.2.2.2.2]))]] 0 0 [(0, .ref x), (1, .int s_32.1), (2, .int s_35.1)] 46 []) ?_ _ _ hb_35
        intro s_35 o_35 ho_35 hk_35 hx_35
        refine xr_iload_n (n := 47) (j := 2) C dX6_isBestSound_46 rfl rfl ?_
        refine xr_bipush (n := 49) (v := 31) C dX6_isBestSound_47 rfl rfl ?_
        refine xr_icmp_gt (tgt := 93) (n := 52) C dX6_isBestSound_49 rfl rfl (fun c_36 => ?_) (fun c_36 => ?_)
        · replace ho_35 := yf_t c_36 ho_35
          refine xr_lv (lv' := [(0, .ref x), (1, .int s_32.1)]) [0, 1] rfl ?_
          have e_37 := hx_35 _ (Option.some.inj ho_35).symm
          exact K_35 _ e_37.symm
        · replace ho_35 := yf_f c_36 ho_35
          refine xr_aload_n (n := 53) (j := 0) C dX6_isBestSound_52 rfl rfl ?_
          refine xr_iload_n (n := 54) (j := 1) C dX6_isBestSound_53 rfl rfl ?_
          refine xr_iload_n (n := 55) (j := 2) C dX6_isBestSound_54 rfl rfl ?_
          obtain ⟨x_38, hx_38, ho_35⟩ := yf_b ho_35
          refine xr_callV (n := 58) (As := [.int s_32.1, .int s_35.1]) (rest := []) C (kX6_beatsOn l D cy (x := x) (xj := xj) (xw := xw) (xz := xz) (xo := xo) (xy := xy) (xt := xt) (xwu := xwu) (xwm := xwm) (xwb := xwb) (xwk := xwk) (xt0 := xt0) (xt1 := xt1) (xt2 := xt2) (xt3 := s_35.2.1) (xt4 := s_35.2.2.1) (xt5 := s_35.2.2.2.1) (xt6 := s_35.2.2.2.2.1) (xt7 := s_35.2.2.2.2.2.1) (xt8 := s_35.2.2.2.2.2.2.1) (xt9 := s_35.2.2.2.2.2.2.2) (i1 := s_32.1) (i2 := s_35.1) hx_38) mX6_beatsOn u_641 u_643 u_17 0 rfl rfl 4 [0, 1, 3] [2] rfl (by decide +kernel) rfl rfl rfl rfl (Nat.le_of_ble_eq_true rfl) (Nat.le_of_ble_eq_true rfl) (Nat.le_of_ble_eq_true rfl) (Nat.le_of_ble_eq_true rfl) (Nat.le_of_ble_eq_true rfl) dX6_isBestSound_55 rfl (fun v_39 u_40 hp_41 => ?_)
          obtain ⟨rfl, rfl⟩ := hp_41
          refine xr_perm C 4 [0, 1, 3, 2] [] [[(x, .inr (6, [.ref xj, .ref xw, .ref xz, .ref xo, .ref xy, .ref xt]))], [(xw, .inr (0, [.ref xwu, .ref xwm, .int xwb, .int xwk]))], [(xy, .inr (2, [.int xy0, .int xy1, .int xy2, .int xy3, .int xy4, .int xy5, .int xy6, .int xy7, .int xy8, .int xy9]))], [(xt, .inr (2, [.int xt0, .int xt1, .int xt2, .int x_38.2.1, .int x_38.2.2.1, .int x_38.2.2.2.1, .int x_38.2.2.2.2.1, .int x_38.2.2.2.2.2.1, .int x_38.2.2.2.2.2.2.1, .int x_38.2.2.2.2.2.2.2]))]] rfl (by decide +kernel) rfl ?_
          refine xr_st (st' := [.int x_38.1]) rfl ?_
          refine xr_istore_n (n := 59) C [(3, .int x_38.1), (0, .ref x), (1, .int s_32.1), (2, .int s_35.1)] dX6_isBestSound_58 (by decide) rfl rfl ?_
          refine xr_iload_n (n := 60) (j := 0) C dX6_isBestSound_59 rfl rfl ?_
          refine xr_iconst (n := 61) (v := -1) C dX6_isBestSound_60 rfl rfl ?_
          refine xr_icmp_eq (tgt := 87) (n := 64) C dX6_isBestSound_61 rfl rfl (fun c_42 => ?_) (fun c_42 => ?_)
          · replace ho_35 := yf_t c_42 ho_35
            refine xr_iinc (j := 3) (v := s_35.1 + 1) (n := 90) C [(2, .int (s_35.1 + 1)), (3, .int x_38.1), (0, .ref x), (1, .int s_32.1)] dX6_isBestSound_87 rfl rfl (by decide) rfl rfl ?_
            refine xr_goto (tgt := 46) C dX6_isBestSound_90 rfl ?_
            refine xr_lv (lv' := [(0, .ref x), (1, .int s_32.1), (2, .int (s_35.1 + 1))]) [2, 3, 0] rfl ?_
            exact hk_35 _ (Option.some.inj ho_35).symm
          · replace ho_35 := yf_f c_42 ho_35
            refine xr_aload_n (n := 65) (j := 1) C dX6_isBestSound_64 rfl rfl ?_
            refine xr_get (n := 68) C 0 rfl rfl 4 (by decide) in_X6 u_252 rfl (v := .ref xy) rfl dX6_isBestSound_65 rfl ?_
            obtain ⟨x_43, hx_43, ho_35⟩ := yf_b ho_35
            refine xr_callVp (n := 71) (As := []) (rest := []) C (kX2_isEmpty l D cy (y := xy) (y0 := xy0) (y1 := xy1) (y2 := xy2) (y3 := xy3) (y4 := xy4) (y5 := xy5) (y6 := xy6) (y7 := xy7) (y8 := xy8) (y9 := xy9) hx_43) mX2_isEmpty u_418 u_419 u_420 2 rfl rfl 4 [2] [0, 1, 3] rfl (by decide +kernel) rfl rfl rfl rfl (Nat.le_of_ble_eq_true rfl) (Nat.le_of_ble_eq_true rfl) (Nat.le_of_ble_eq_true rfl) (Nat.le_of_ble_eq_true rfl) (Nat.le_of_ble_eq_true rfl) dX6_isBestSound_68 rfl (fun _ _ hp => hp.2) (fun v_44 hp_46 => ?_)
            obtain ⟨rfl, -⟩ := hp_46
            refine xr_st (st' := [.int x_43]) rfl ?_
            refine xr_if_ne (tgt := 85) (n := 74) C dX6_isBestSound_71 rfl rfl (fun c_47 => ?_) (fun c_47 => ?_)
            · replace ho_35 := yf_f c_47 ho_35
              refine xr_iconst (n := 86) (v := 0) C dX6_isBestSound_85 rfl rfl ?_
              have e_48 := hx_35 _ (Option.some.inj ho_35).symm
              subst e_48
              replace ho_32 := ybr_r ho_32
              have e_49 := hx_32 _ (Option.some.inj ho_32).symm
              subst e_49
              replace hR := ybr_r hR
              obtain rfl := Option.some.inj hR
              exact ret 0 (by decide) ⟨rfl, rfl⟩ (Nat.le_of_ble_eq_true rfl) (Nat.le_of_ble_eq_true rfl) dX6_isBestSound_86
            · replace ho_35 := yf_t c_47 ho_35
              refine xr_iload_n (n := 75) (j := 0) C dX6_isBestSound_74 rfl rfl ?_
              refine xr_aload_n (n := 76) (j := 1) C dX6_isBestSound_75 rfl rfl ?_
              refine xr_get (n := 79) C 0 rfl rfl 4 (by decide) in_X6 u_252 rfl (v := .ref xy) rfl dX6_isBestSound_76 rfl ?_
              refine xr_getN (n := 82) C 2 rfl rfl 9 (by decide) in_X2 RX6 (List.mem_of_getElem? (i := 38) rfl) rfl (v := .int xy9) rfl dX6_isBestSound_79 rfl ?_
              refine xr_icmp_ge (tgt := 87) (n := 85) C dX6_isBestSound_82 rfl rfl (fun c_50 => ?_) (fun c_50 => ?_)
              · replace ho_35 := yf_t c_50 ho_35
                refine xr_iinc (j := 3) (v := s_35.1 + 1) (n := 90) C [(2, .int (s_35.1 + 1)), (3, .int x_38.1), (0, .ref x), (1, .int s_32.1)] dX6_isBestSound_87 rfl rfl (by decide) rfl rfl ?_
                refine xr_goto (tgt := 46) C dX6_isBestSound_90 rfl ?_
                refine xr_lv (lv' := [(0, .ref x), (1, .int s_32.1), (2, .int (s_35.1 + 1))]) [2, 3, 0] rfl ?_
                exact hk_35 _ (Option.some.inj ho_35).symm
              · replace ho_35 := yf_f c_50 ho_35
                refine xr_iconst (n := 86) (v := 0) C dX6_isBestSound_85 rfl rfl ?_
                have e_51 := hx_35 _ (Option.some.inj ho_35).symm
                subst e_51
                replace ho_32 := ybr_r ho_32
                have e_52 := hx_32 _ (Option.some.inj ho_32).symm
                subst e_52
                replace hR := ybr_r hR
                obtain rfl := Option.some.inj hR
                exact ret 0 (by decide) ⟨rfl, rfl⟩ (Nat.le_of_ble_eq_true rfl) (Nat.le_of_ble_eq_true rfl) dX6_isBestSound_86
    · replace hR := yf_f c_31 hR
      refine xr_iconst (n := 35) (v := 0) C dX6_isBestSound_34 rfl rfl ?_
      obtain rfl := Option.some.inj hR
      exact ret 0 (by decide) ⟨rfl, rfl⟩ (Nat.le_of_ble_eq_true rfl) (Nat.le_of_ble_eq_true rfl) dX6_isBestSound_35
theorem dX6_doUsesAddUp_0 : decode cX6_doUsesAddUp 0 = .ok (.aload_n 0, 1) := by decide +kernel
theorem dX6_doUsesAddUp_1 : decode cX6_doUsesAddUp 1 = .ok (.getfield 19, 3) := by decide +kernel
theorem dX6_doUsesAddUp_4 : decode cX6_doUsesAddUp 4 = .ok (.invokevirtual 347, 3) := by decide +kernel
theorem dX6_doUsesAddUp_7 : decode cX6_doUsesAddUp 7 = .ok (.aload_n 0, 1) := by decide +kernel
theorem dX6_doUsesAddUp_8 : decode cX6_doUsesAddUp 8 = .ok (.getfield 33, 3) := by decide +kernel
theorem dX6_doUsesAddUp_11 : decode cX6_doUsesAddUp 11 = .ok (.getfield 350, 3) := by decide +kernel
theorem dX6_doUsesAddUp_14 : decode cX6_doUsesAddUp 14 = .ok (.aload_n 0, 1) := by decide +kernel
theorem dX6_doUsesAddUp_15 : decode cX6_doUsesAddUp 15 = .ok (.getfield 33, 3) := by decide +kernel
theorem dX6_doUsesAddUp_18 : decode cX6_doUsesAddUp 18 = .ok (.invokevirtual 353, 3) := by decide +kernel
theorem dX6_doUsesAddUp_21 : decode cX6_doUsesAddUp 21 = .ok (.iadd, 1) := by decide +kernel
theorem dX6_doUsesAddUp_22 : decode cX6_doUsesAddUp 22 = .ok (.if_icmp .ne 7, 3) := by decide +kernel
theorem dX6_doUsesAddUp_25 : decode cX6_doUsesAddUp 25 = .ok (.iconst 1, 1) := by decide +kernel
theorem dX6_doUsesAddUp_26 : decode cX6_doUsesAddUp 26 = .ok (.goto 4, 3) := by decide +kernel
theorem dX6_doUsesAddUp_29 : decode cX6_doUsesAddUp 29 = .ok (.iconst 0, 1) := by decide +kernel
theorem dX6_doUsesAddUp_30 : decode cX6_doUsesAddUp 30 = .ok (.ireturn, 1) := by decide +kernel
def fX6_doUsesAddUp (xwuf : Nat → Int32) (xofr : Int32) (xofc : Int32) (xobt : Int32) (xobl : Int32) (xotk : Int32) (xoy0 : Int32) (xoy1 : Int32) (xoy2 : Int32) (xoy5 : Int32) (xoy6 : Int32) : Option (Int32) := ((fX0_sumOfUses xwuf).bind fun x_1 => ((fX5_takenInTile xofr xofc xobt xobl xoy0 xoy1 xoy2 xoy5 xoy6).bind fun x_5 => (if x_1 = (xotk + x_5) then some 1 else some 0)))
abbrev hX6_doUsesAddUp : Cond := .code yX6_doUsesAddUp cX6_doUsesAddUp 1 (some .boolean)
theorem mX6_doUsesAddUp : yM yX6_doUsesAddUp hX6_doUsesAddUp 0 := ⟨u_683, u_28, by decide +kernel, by decide +kernel, by decide +kernel⟩
set_option maxHeartbeats 4000000 in
set_option maxRecDepth 100000 in
theorem kX6_doUsesAddUp (l : Launch) (D : va_G) (cy : Nat → ClassId) (x : Nat) (xj : Nat) (xw : Nat) (xz : Nat) (xo : Nat) (xy : Nat) (xt : Nat) (xwu : Nat) (xwm : Nat) (xwb : Int32) (xwk : Int32) (xwun : Nat) (xwuf : Nat → Int32) (xoj : Nat) (xoy : Nat) (xosk : Int32) (xoti : Int32) (xofr : Int32) (xofc : Int32) (xobt : Int32) (xobl : Int32) (xobe : Int32) (xose : Int32) (xotk : Int32) (xoy0 : Int32) (xoy1 : Int32) (xoy2 : Int32) (xoy3 : Int32) (xoy4 : Int32) (xoy5 : Int32) (xoy6 : Int32) (xoy7 : Int32) (xoy8 : Int32) (xoy9 : Int32) {res : Int32} (hR : fX6_doUsesAddUp xwuf xofr xofc xobt xobl xotk xoy0 xoy1 xoy2 xoy5 xoy6 = some res) : YM l D cy yX6_doUsesAddUp hX6_doUsesAddUp 3 0 0 [.ref x] [[(x, .inr (6, [.ref xj, .ref xw, .ref xz, .ref xo, .ref xy, .ref xt]))], [(xw, .inr (0, [.ref xwu, .ref xwm, .int xwb, .int xwk]))], [(xwu, .inr (4, [.ref xwun]))], [(xwun, .inl (cy 1, 81, .inl xwuf))], [(xo, .inr (5, [.ref xoj, .ref xoy, .int xosk, .int xoti, .int xofr, .int xofc, .int xobt, .int xobl, .int xobe, .int xose, .int xotk]))], [(xoy, .inr (2, [.int xoy0, .int xoy1, .int xoy2, .int xoy3, .int xoy4, .int xoy5, .int xoy6, .int xoy7, .int xoy8, .int xoy9]))]] (fun v u => v = some (.int res) ∧ u = [[(x, .inr (6, [.ref xj, .ref xw, .ref xz, .ref xo, .ref xy, .ref xt]))], [(xw, .inr (0, [.ref xwu, .ref xwm, .int xwb, .int xwk]))], [(xwu, .inr (4, [.ref xwun]))], [(xwun, .inl (cy 1, 81, .inl xwuf))], [(xo, .inr (5, [.ref xoj, .ref xoy, .int xosk, .int xoti, .int xofr, .int xofc, .int xobt, .int xobl, .int xobe, .int xose, .int xotk]))], [(xoy, .inr (2, [.int xoy0, .int xoy1, .int xoy2, .int xoy3, .int xoy4, .int xoy5, .int xoy6, .int xoy7, .int xoy8, .int xoy9]))]]) := by
  unfold fX6_doUsesAddUp at hR
  refine YM.ofZ (cc := cX6_doUsesAddUp) (maxL := 1) (ret := (some .boolean)) (by decide +kernel) rfl (Nat.le_of_ble_eq_true rfl) [(0, .ref x)] rfl .boolean rfl (fun p e s m args below meth c A H0 Q C hnm ret => ?_)
  refine xr_aload_n (n := 1) (j := 0) C dX6_doUsesAddUp_0 rfl rfl ?_
  refine xr_get (n := 4) C 0 rfl rfl 1 (by decide) in_X6 u_249 rfl (v := .ref xw) rfl dX6_doUsesAddUp_1 rfl ?_
  obtain ⟨x_1, hx_1, hR⟩ := yf_b hR
  refine xr_callVp (n := 7) (As := []) (rest := []) C (kX0_sumOfUses l D cy (w := xw) (wu := xwu) (wm := xwm) (wb := xwb) (wk := xwk) (wun := xwun) (wuf := xwuf) hx_1) mX0_sumOfUses u_684 u_685 u_686 1 rfl rfl 6 [1, 2, 3] [0, 4, 5] rfl (by decide +kernel) rfl rfl rfl rfl (Nat.le_of_ble_eq_true rfl) (Nat.le_of_ble_eq_true rfl) (Nat.le_of_ble_eq_true rfl) (Nat.le_of_ble_eq_true rfl) (Nat.le_of_ble_eq_true rfl) dX6_doUsesAddUp_4 rfl (fun _ _ hp => hp.2) (fun v_2 hp_4 => ?_)
  obtain ⟨rfl, -⟩ := hp_4
  refine xr_st (st' := [.int x_1]) rfl ?_
  refine xr_aload_n (n := 8) (j := 0) C dX6_doUsesAddUp_7 rfl rfl ?_
  refine xr_get (n := 11) C 0 rfl rfl 3 (by decide) in_X6 u_251 rfl (v := .ref xo) rfl dX6_doUsesAddUp_8 rfl ?_
  refine xr_getN (n := 14) C 4 rfl rfl 10 (by decide) in_X5 RX6 (List.mem_of_getElem? (i := 43) rfl) rfl (v := .int xotk) rfl dX6_doUsesAddUp_11 rfl ?_
  refine xr_aload_n (n := 15) (j := 0) C dX6_doUsesAddUp_14 rfl rfl ?_
  refine xr_get (n := 18) C 0 rfl rfl 3 (by decide) in_X6 u_251 rfl (v := .ref xo) rfl dX6_doUsesAddUp_15 rfl ?_
  obtain ⟨x_5, hx_5, hR⟩ := yf_b hR
  refine xr_callVp (n := 21) (As := []) (rest := [.int xotk, .int x_1]) C (kX5_takenInTile l D cy (o := xo) (oj := xoj) (oy := xoy) (osk := xosk) (oti := xoti) (ofr := xofr) (ofc := xofc) (obt := xobt) (obl := xobl) (obe := xobe) (ose := xose) (otk := xotk) (oy0 := xoy0) (oy1 := xoy1) (oy2 := xoy2) (oy3 := xoy3) (oy4 := xoy4) (oy5 := xoy5) (oy6 := xoy6) (oy7 := xoy7) (oy8 := xoy8) (oy9 := xoy9) hx_5) mX5_takenInTile u_688 u_689 u_690 4 rfl rfl 6 [4, 5] [0, 1, 2, 3] rfl (by decide +kernel) rfl rfl rfl rfl (Nat.le_of_ble_eq_true rfl) (Nat.le_of_ble_eq_true rfl) (Nat.le_of_ble_eq_true rfl) (Nat.le_of_ble_eq_true rfl) (Nat.le_of_ble_eq_true rfl) dX6_doUsesAddUp_18 rfl (fun _ _ hp => hp.2) (fun v_6 hp_8 => ?_)
  obtain ⟨rfl, -⟩ := hp_8
  refine xr_st (st' := [.int x_5, .int xotk, .int x_1]) rfl ?_
  refine xr_iadd (n := 22) C dX6_doUsesAddUp_21 rfl ?_
  refine xr_icmp_ne (tgt := 29) (n := 25) C dX6_doUsesAddUp_22 rfl rfl (fun c_9 => ?_) (fun c_9 => ?_)
  · replace hR := yf_f c_9 hR
    refine xr_iconst (n := 30) (v := 0) C dX6_doUsesAddUp_29 rfl rfl ?_
    obtain rfl := Option.some.inj hR
    exact ret 0 (by decide) ⟨rfl, rfl⟩ (Nat.le_of_ble_eq_true rfl) (Nat.le_of_ble_eq_true rfl) dX6_doUsesAddUp_30
  · replace hR := yf_t c_9 hR
    refine xr_iconst (n := 26) (v := 1) C dX6_doUsesAddUp_25 rfl rfl ?_
    refine xr_goto (tgt := 30) C dX6_doUsesAddUp_26 rfl ?_
    obtain rfl := Option.some.inj hR
    exact ret 1 (by decide) ⟨rfl, rfl⟩ (Nat.le_of_ble_eq_true rfl) (Nat.le_of_ble_eq_true rfl) dX6_doUsesAddUp_30
theorem dX6_isAllSound_0 : decode cX6_isAllSound 0 = .ok (.aload_n 0, 1) := by decide +kernel
theorem dX6_isAllSound_1 : decode cX6_isAllSound 1 = .ok (.invokevirtual 335, 3) := by decide +kernel
theorem dX6_isAllSound_4 : decode cX6_isAllSound 4 = .ok (.ifCond .eq 34, 3) := by decide +kernel
theorem dX6_isAllSound_7 : decode cX6_isAllSound 7 = .ok (.aload_n 0, 1) := by decide +kernel
theorem dX6_isAllSound_8 : decode cX6_isAllSound 8 = .ok (.getfield 19, 3) := by decide +kernel
theorem dX6_isAllSound_11 : decode cX6_isAllSound 11 = .ok (.invokevirtual 338, 3) := by decide +kernel
theorem dX6_isAllSound_14 : decode cX6_isAllSound 14 = .ok (.ifCond .eq 24, 3) := by decide +kernel
theorem dX6_isAllSound_17 : decode cX6_isAllSound 17 = .ok (.aload_n 0, 1) := by decide +kernel
theorem dX6_isAllSound_18 : decode cX6_isAllSound 18 = .ok (.invokevirtual 341, 3) := by decide +kernel
theorem dX6_isAllSound_21 : decode cX6_isAllSound 21 = .ok (.ifCond .eq 17, 3) := by decide +kernel
theorem dX6_isAllSound_24 : decode cX6_isAllSound 24 = .ok (.aload_n 0, 1) := by decide +kernel
theorem dX6_isAllSound_25 : decode cX6_isAllSound 25 = .ok (.getfield 33, 3) := by decide +kernel
theorem dX6_isAllSound_28 : decode cX6_isAllSound 28 = .ok (.invokevirtual 344, 3) := by decide +kernel
theorem dX6_isAllSound_31 : decode cX6_isAllSound 31 = .ok (.ifCond .eq 7, 3) := by decide +kernel
theorem dX6_isAllSound_34 : decode cX6_isAllSound 34 = .ok (.iconst 1, 1) := by decide +kernel
theorem dX6_isAllSound_35 : decode cX6_isAllSound 35 = .ok (.goto 4, 3) := by decide +kernel
theorem dX6_isAllSound_38 : decode cX6_isAllSound 38 = .ok (.iconst 0, 1) := by decide +kernel
theorem dX6_isAllSound_39 : decode cX6_isAllSound 39 = .ok (.ireturn, 1) := by decide +kernel
def fX6_isAllSound (xwb : Int32) (xwk : Int32) (xwuf : Nat → Int32) (xoti : Int32) (xofr : Int32) (xofc : Int32) (xobt : Int32) (xobl : Int32) (xotk : Int32) (xoy0 : Int32) (xoy1 : Int32) (xoy2 : Int32) (xoy5 : Int32) (xoy6 : Int32) (xoy7 : Int32) (xoy8 : Int32) (xy3 : Int32) (xy4 : Int32) (xy9 : Int32) (xt0 : Int32) (xt1 : Int32) (xt2 : Int32) (xt3 : Int32) (xt4 : Int32) (xt5 : Int32) (xt6 : Int32) (xt7 : Int32) (xt8 : Int32) (xt9 : Int32) : Option (Int32 × Int32 × Int32 × Int32 × Int32 × Int32 × Int32 × Int32) := ((fX6_isBestSound xwk xy3 xy4 xy9 xt0 xt1 xt2 xt3 xt4 xt5 xt6 xt7 xt8 xt9).bind fun x_1 => (if x_1.1 = 0 then some (0, x_1.2.1, x_1.2.2.1, x_1.2.2.2.1, x_1.2.2.2.2.1, x_1.2.2.2.2.2.1, x_1.2.2.2.2.2.2.1, x_1.2.2.2.2.2.2.2) else ((fX0_areKnownBroken xwb xwk).bind fun x_6 => (if x_6 = 0 then some (0, x_1.2.1, x_1.2.2.1, x_1.2.2.2.1, x_1.2.2.2.2.1, x_1.2.2.2.2.2.1, x_1.2.2.2.2.2.2.1, x_1.2.2.2.2.2.2.2) else ((fX6_doUsesAddUp xwuf xofr xofc xobt xobl xotk xoy0 xoy1 xoy2 xoy5 xoy6).bind fun x_11 => (if x_11 = 0 then some (0, x_1.2.1, x_1.2.2.1, x_1.2.2.2.1, x_1.2.2.2.2.1, x_1.2.2.2.2.2.1, x_1.2.2.2.2.2.2.1, x_1.2.2.2.2.2.2.2) else ((fX5_isUnfinished xoti xofr xofc xobt xobl xoy0 xoy1 xoy2 xoy5 xoy6 xoy7 xoy8).bind fun x_16 => (if x_16 = 0 then some (0, x_1.2.1, x_1.2.2.1, x_1.2.2.2.1, x_1.2.2.2.2.1, x_1.2.2.2.2.2.1, x_1.2.2.2.2.2.2.1, x_1.2.2.2.2.2.2.2) else some (1, x_1.2.1, x_1.2.2.1, x_1.2.2.2.1, x_1.2.2.2.2.1, x_1.2.2.2.2.2.1, x_1.2.2.2.2.2.2.1, x_1.2.2.2.2.2.2.2)))))))))
abbrev hX6_isAllSound : Cond := .code yX6_isAllSound cX6_isAllSound 1 (some .boolean)
theorem mX6_isAllSound : yM yX6_isAllSound hX6_isAllSound 0 := ⟨u_671, u_28, by decide +kernel, by decide +kernel, by decide +kernel⟩
set_option maxHeartbeats 4000000 in
set_option maxRecDepth 100000 in
theorem kX6_isAllSound (l : Launch) (D : va_G) (cy : Nat → ClassId) (x : Nat) (xj : Nat) (xw : Nat) (xz : Nat) (xo : Nat) (xy : Nat) (xt : Nat) (xwu : Nat) (xwm : Nat) (xwb : Int32) (xwk : Int32) (xwun : Nat) (xwuf : Nat → Int32) (xoj : Nat) (xoy : Nat) (xosk : Int32) (xoti : Int32) (xofr : Int32) (xofc : Int32) (xobt : Int32) (xobl : Int32) (xobe : Int32) (xose : Int32) (xotk : Int32) (xoy0 : Int32) (xoy1 : Int32) (xoy2 : Int32) (xoy3 : Int32) (xoy4 : Int32) (xoy5 : Int32) (xoy6 : Int32) (xoy7 : Int32) (xoy8 : Int32) (xoy9 : Int32) (xy0 : Int32) (xy1 : Int32) (xy2 : Int32) (xy3 : Int32) (xy4 : Int32) (xy5 : Int32) (xy6 : Int32) (xy7 : Int32) (xy8 : Int32) (xy9 : Int32) (xt0 : Int32) (xt1 : Int32) (xt2 : Int32) (xt3 : Int32) (xt4 : Int32) (xt5 : Int32) (xt6 : Int32) (xt7 : Int32) (xt8 : Int32) (xt9 : Int32) {res : Int32 × Int32 × Int32 × Int32 × Int32 × Int32 × Int32 × Int32} (hR : fX6_isAllSound xwb xwk xwuf xoti xofr xofc xobt xobl xotk xoy0 xoy1 xoy2 xoy5 xoy6 xoy7 xoy8 xy3 xy4 xy9 xt0 xt1 xt2 xt3 xt4 xt5 xt6 xt7 xt8 xt9 = some res) : YM l D cy yX6_isAllSound hX6_isAllSound 5 0 0 [.ref x] [[(x, .inr (6, [.ref xj, .ref xw, .ref xz, .ref xo, .ref xy, .ref xt]))], [(xw, .inr (0, [.ref xwu, .ref xwm, .int xwb, .int xwk]))], [(xwu, .inr (4, [.ref xwun]))], [(xwun, .inl (cy 1, 81, .inl xwuf))], [(xo, .inr (5, [.ref xoj, .ref xoy, .int xosk, .int xoti, .int xofr, .int xofc, .int xobt, .int xobl, .int xobe, .int xose, .int xotk]))], [(xoy, .inr (2, [.int xoy0, .int xoy1, .int xoy2, .int xoy3, .int xoy4, .int xoy5, .int xoy6, .int xoy7, .int xoy8, .int xoy9]))], [(xy, .inr (2, [.int xy0, .int xy1, .int xy2, .int xy3, .int xy4, .int xy5, .int xy6, .int xy7, .int xy8, .int xy9]))], [(xt, .inr (2, [.int xt0, .int xt1, .int xt2, .int xt3, .int xt4, .int xt5, .int xt6, .int xt7, .int xt8, .int xt9]))]] (fun v u => v = some (.int res.1) ∧ u = [[(x, .inr (6, [.ref xj, .ref xw, .ref xz, .ref xo, .ref xy, .ref xt]))], [(xw, .inr (0, [.ref xwu, .ref xwm, .int xwb, .int xwk]))], [(xwu, .inr (4, [.ref xwun]))], [(xwun, .inl (cy 1, 81, .inl xwuf))], [(xo, .inr (5, [.ref xoj, .ref xoy, .int xosk, .int xoti, .int xofr, .int xofc, .int xobt, .int xobl, .int xobe, .int xose, .int xotk]))], [(xoy, .inr (2, [.int xoy0, .int xoy1, .int xoy2, .int xoy3, .int xoy4, .int xoy5, .int xoy6, .int xoy7, .int xoy8, .int xoy9]))], [(xy, .inr (2, [.int xy0, .int xy1, .int xy2, .int xy3, .int xy4, .int xy5, .int xy6, .int xy7, .int xy8, .int xy9]))], [(xt, .inr (2, [.int xt0, .int xt1, .int xt2, .int res.2.1, .int res.2.2.1, .int res.2.2.2.1, .int res.2.2.2.2.1, .int res.2.2.2.2.2.1, .int res.2.2.2.2.2.2.1, .int res.2.2.2.2.2.2.2]))]]) := by
  unfold fX6_isAllSound at hR
  refine YM.ofZ (cc := cX6_isAllSound) (maxL := 1) (ret := (some .boolean)) (by decide +kernel) rfl (Nat.le_of_ble_eq_true rfl) [(0, .ref x)] rfl .boolean rfl (fun p e s m args below meth c A H0 Q C hnm ret => ?_)
  refine xr_aload_n (n := 1) (j := 0) C dX6_isAllSound_0 rfl rfl ?_
  obtain ⟨x_1, hx_1, hR⟩ := yf_b hR
  refine xr_callV (n := 4) (As := []) (rest := []) C (kX6_isBestSound l D cy (x := x) (xj := xj) (xw := xw) (xz := xz) (xo := xo) (xy := xy) (xt := xt) (xwu := xwu) (xwm := xwm) (xwb := xwb) (xwk := xwk) (xy0 := xy0) (xy1 := xy1) (xy2 := xy2) (xy3 := xy3) (xy4 := xy4) (xy5 := xy5) (xy6 := xy6) (xy7 := xy7) (xy8 := xy8) (xy9 := xy9) (xt0 := xt0) (xt1 := xt1) (xt2 := xt2) (xt3 := xt3) (xt4 := xt4) (xt5 := xt5) (xt6 := xt6) (xt7 := xt7) (xt8 := xt8) (xt9 := xt9) hx_1) mX6_isBestSound u_672 u_674 u_20 0 rfl rfl 8 [0, 1, 6, 7] [2, 3, 4, 5] rfl (by decide +kernel) rfl rfl rfl rfl (Nat.le_of_ble_eq_true rfl) (Nat.le_of_ble_eq_true rfl) (Nat.le_of_ble_eq_true rfl) (Nat.le_of_ble_eq_true rfl) (Nat.le_of_ble_eq_true rfl) dX6_isAllSound_1 rfl (fun v_2 u_3 hp_4 => ?_)
  obtain ⟨rfl, rfl⟩ := hp_4
  refine xr_perm C 8 [0, 1, 4, 5, 6, 7, 2, 3] [] [[(x, .inr (6, [.ref xj, .ref xw, .ref xz, .ref xo, .ref xy, .ref xt]))], [(xw, .inr (0, [.ref xwu, .ref xwm, .int xwb, .int xwk]))], [(xwu, .inr (4, [.ref xwun]))], [(xwun, .inl (cy 1, 81, .inl xwuf))], [(xo, .inr (5, [.ref xoj, .ref xoy, .int xosk, .int xoti, .int xofr, .int xofc, .int xobt, .int xobl, .int xobe, .int xose, .int xotk]))], [(xoy, .inr (2, [.int xoy0, .int xoy1, .int xoy2, .int xoy3, .int xoy4, .int xoy5, .int xoy6, .int xoy7, .int xoy8, .int xoy9]))], [(xy, .inr (2, [.int xy0, .int xy1, .int xy2, .int xy3, .int xy4, .int xy5, .int xy6, .int xy7, .int xy8, .int xy9]))], [(xt, .inr (2, [.int xt0, .int xt1, .int xt2, .int x_1.2.1, .int x_1.2.2.1, .int x_1.2.2.2.1, .int x_1.2.2.2.2.1, .int x_1.2.2.2.2.2.1, .int x_1.2.2.2.2.2.2.1, .int x_1.2.2.2.2.2.2.2]))]] rfl (by decide +kernel) rfl ?_
  refine xr_st (st' := [.int x_1.1]) rfl ?_
  refine xr_if_eq (tgt := 38) (n := 7) C dX6_isAllSound_4 rfl rfl (fun c_5 => ?_) (fun c_5 => ?_)
  · replace hR := yf_t c_5 hR
    refine xr_iconst (n := 39) (v := 0) C dX6_isAllSound_38 rfl rfl ?_
    obtain rfl := Option.some.inj hR
    exact ret 0 (by decide) ⟨rfl, rfl⟩ (Nat.le_of_ble_eq_true rfl) (Nat.le_of_ble_eq_true rfl) dX6_isAllSound_39
  · replace hR := yf_f c_5 hR
    refine xr_aload_n (n := 8) (j := 0) C dX6_isAllSound_7 rfl rfl ?_
    refine xr_get (n := 11) C 0 rfl rfl 1 (by decide) in_X6 u_249 rfl (v := .ref xw) rfl dX6_isAllSound_8 rfl ?_
    obtain ⟨x_6, hx_6, hR⟩ := yf_b hR
    refine xr_callVp (n := 14) (As := []) (rest := []) C (kX0_areKnownBroken l D cy (w := xw) (wu := xwu) (wm := xwm) (wb := xwb) (wk := xwk) hx_6) mX0_areKnownBroken u_676 u_677 u_678 1 rfl rfl 8 [1] [0, 2, 3, 4, 5, 6, 7] rfl (by decide +kernel) rfl rfl rfl rfl (Nat.le_of_ble_eq_true rfl) (Nat.le_of_ble_eq_true rfl) (Nat.le_of_ble_eq_true rfl) (Nat.le_of_ble_eq_true rfl) (Nat.le_of_ble_eq_true rfl) dX6_isAllSound_11 rfl (fun _ _ hp => hp.2) (fun v_7 hp_9 => ?_)
    obtain ⟨rfl, -⟩ := hp_9
    refine xr_st (st' := [.int x_6]) rfl ?_
    refine xr_if_eq (tgt := 38) (n := 17) C dX6_isAllSound_14 rfl rfl (fun c_10 => ?_) (fun c_10 => ?_)
    · replace hR := yf_t c_10 hR
      refine xr_iconst (n := 39) (v := 0) C dX6_isAllSound_38 rfl rfl ?_
      obtain rfl := Option.some.inj hR
      exact ret 0 (by decide) ⟨rfl, rfl⟩ (Nat.le_of_ble_eq_true rfl) (Nat.le_of_ble_eq_true rfl) dX6_isAllSound_39
    · replace hR := yf_f c_10 hR
      refine xr_aload_n (n := 18) (j := 0) C dX6_isAllSound_17 rfl rfl ?_
      obtain ⟨x_11, hx_11, hR⟩ := yf_b hR
      refine xr_callVp (n := 21) (As := []) (rest := []) C (kX6_doUsesAddUp l D cy (x := x) (xj := xj) (xw := xw) (xz := xz) (xo := xo) (xy := xy) (xt := xt) (xwu := xwu) (xwm := xwm) (xwb := xwb) (xwk := xwk) (xwun := xwun) (xwuf := xwuf) (xoj := xoj) (xoy := xoy) (xosk := xosk) (xoti := xoti) (xofr := xofr) (xofc := xofc) (xobt := xobt) (xobl := xobl) (xobe := xobe) (xose := xose) (xotk := xotk) (xoy0 := xoy0) (xoy1 := xoy1) (xoy2 := xoy2) (xoy3 := xoy3) (xoy4 := xoy4) (xoy5 := xoy5) (xoy6 := xoy6) (xoy7 := xoy7) (xoy8 := xoy8) (xoy9 := xoy9) hx_11) mX6_doUsesAddUp u_680 u_682 u_21 0 rfl rfl 8 [0, 1, 2, 3, 4, 5] [6, 7] rfl (by decide +kernel) rfl rfl rfl rfl (Nat.le_of_ble_eq_true rfl) (Nat.le_of_ble_eq_true rfl) (Nat.le_of_ble_eq_true rfl) (Nat.le_of_ble_eq_true rfl) (Nat.le_of_ble_eq_true rfl) dX6_isAllSound_18 rfl (fun _ _ hp => hp.2) (fun v_12 hp_14 => ?_)
      obtain ⟨rfl, -⟩ := hp_14
      refine xr_st (st' := [.int x_11]) rfl ?_
      refine xr_if_eq (tgt := 38) (n := 24) C dX6_isAllSound_21 rfl rfl (fun c_15 => ?_) (fun c_15 => ?_)
      · replace hR := yf_t c_15 hR
        refine xr_iconst (n := 39) (v := 0) C dX6_isAllSound_38 rfl rfl ?_
        obtain rfl := Option.some.inj hR
        exact ret 0 (by decide) ⟨rfl, rfl⟩ (Nat.le_of_ble_eq_true rfl) (Nat.le_of_ble_eq_true rfl) dX6_isAllSound_39
      · replace hR := yf_f c_15 hR
        refine xr_aload_n (n := 25) (j := 0) C dX6_isAllSound_24 rfl rfl ?_
        refine xr_get (n := 28) C 0 rfl rfl 3 (by decide) in_X6 u_251 rfl (v := .ref xo) rfl dX6_isAllSound_25 rfl ?_
        obtain ⟨x_16, hx_16, hR⟩ := yf_b hR
        refine xr_callVp (n := 31) (As := []) (rest := []) C (kX5_isUnfinished l D cy (o := xo) (oj := xoj) (oy := xoy) (osk := xosk) (oti := xoti) (ofr := xofr) (ofc := xofc) (obt := xobt) (obl := xobl) (obe := xobe) (ose := xose) (otk := xotk) (oy0 := xoy0) (oy1 := xoy1) (oy2 := xoy2) (oy3 := xoy3) (oy4 := xoy4) (oy5 := xoy5) (oy6 := xoy6) (oy7 := xoy7) (oy8 := xoy8) (oy9 := xoy9) hx_16) mX5_isUnfinished u_693 u_694 u_695 4 rfl rfl 8 [4, 5] [0, 1, 2, 3, 6, 7] rfl (by decide +kernel) rfl rfl rfl rfl (Nat.le_of_ble_eq_true rfl) (Nat.le_of_ble_eq_true rfl) (Nat.le_of_ble_eq_true rfl) (Nat.le_of_ble_eq_true rfl) (Nat.le_of_ble_eq_true rfl) dX6_isAllSound_28 rfl (fun _ _ hp => hp.2) (fun v_17 hp_19 => ?_)
        obtain ⟨rfl, -⟩ := hp_19
        refine xr_st (st' := [.int x_16]) rfl ?_
        refine xr_if_eq (tgt := 38) (n := 34) C dX6_isAllSound_31 rfl rfl (fun c_20 => ?_) (fun c_20 => ?_)
        · replace hR := yf_t c_20 hR
          refine xr_iconst (n := 39) (v := 0) C dX6_isAllSound_38 rfl rfl ?_
          obtain rfl := Option.some.inj hR
          exact ret 0 (by decide) ⟨rfl, rfl⟩ (Nat.le_of_ble_eq_true rfl) (Nat.le_of_ble_eq_true rfl) dX6_isAllSound_39
        · replace hR := yf_f c_20 hR
          refine xr_iconst (n := 35) (v := 1) C dX6_isAllSound_34 rfl rfl ?_
          refine xr_goto (tgt := 39) C dX6_isAllSound_35 rfl ?_
          obtain rfl := Option.some.inj hR
          exact ret 1 (by decide) ⟨rfl, rfl⟩ (Nat.le_of_ble_eq_true rfl) (Nat.le_of_ble_eq_true rfl) dX6_isAllSound_39
