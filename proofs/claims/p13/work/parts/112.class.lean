theorem u_293 : Cond.fieldLink RX6 40 "Pulsemesh" "chosen" "LPulsemesh$Layout;" ∈ yU := yu_tables_1_1 237 (by decide +kernel) (by decide +kernel)
theorem u_378 : Cond.methodLink RX6 146 yX2_isEmpty ∈ yU := yu_tables_1_2 82 (by decide +kernel) (by decide +kernel)
theorem u_379 : Cond.instanceMethod yX2_isEmpty ∈ yU := yu_tables_1_2 83 (by decide +kernel) (by decide +kernel)
theorem u_380 : Cond.selects RX2 yX2_isEmpty yX2_isEmpty ∈ yU := yu_tables_1_2 84 (by decide +kernel) (by decide +kernel)
theorem u_382 : Cond.methodLink RX6 328 yX2_isBetterThan ∈ yU := yu_tables_1_2 86 (by decide +kernel) (by decide +kernel)
theorem u_383 : Cond.instanceMethod yX2_isBetterThan ∈ yU := yu_tables_1_2 87 (by decide +kernel) (by decide +kernel)
theorem u_384 : Cond.selects RX2 yX2_isBetterThan yX2_isBetterThan ∈ yU := yu_tables_1_2 88 (by decide +kernel) (by decide +kernel)
theorem u_377 : Cond.code yX6_keepIfBetter cX6_keepIfBetter 1 none ∈ yU := yu_tables_1_2 81 (by decide +kernel) (by decide +kernel)
theorem u_316 : Cond.methodLink RX6 231 yX2_measure ∈ yU := yu_tables_1_2 20 (by decide +kernel) (by decide +kernel)
theorem u_317 : Cond.instanceMethod yX2_measure ∈ yU := yu_tables_1_2 21 (by decide +kernel) (by decide +kernel)
theorem u_318 : Cond.selects RX2 yX2_measure yX2_measure ∈ yU := yu_tables_1_2 22 (by decide +kernel) (by decide +kernel)
theorem u_370 : Cond.methodLink RX6 322 yX0_knownColumns ∈ yU := yu_tables_1_2 74 (by decide +kernel) (by decide +kernel)
theorem u_374 : Cond.methodLink RX6 325 yX6_keepIfBetter ∈ yU := yu_tables_1_2 78 (by decide +kernel) (by decide +kernel)
theorem u_376 : Cond.instanceMethod yX6_keepIfBetter ∈ yU := yu_tables_1_2 80 (by decide +kernel) (by decide +kernel)
theorem u_4 : Cond.selects RX6 yX6_keepIfBetter yX6_keepIfBetter ∈ yU := yu 4 (by decide +kernel) (by decide +kernel)
theorem u_315 : Cond.code yX6_findBest cX6_findBest 4 none ∈ yU := yu_tables_1_2 19 (by decide +kernel) (by decide +kernel)
theorem u_312 : Cond.methodLink RX6 143 yX6_findBest ∈ yU := yu_tables_1_2 16 (by decide +kernel) (by decide +kernel)
theorem u_314 : Cond.instanceMethod yX6_findBest ∈ yU := yu_tables_1_2 18 (by decide +kernel) (by decide +kernel)
theorem u_0 : Cond.selects RX6 yX6_findBest yX6_findBest ∈ yU := yu 0 (by decide +kernel) (by decide +kernel)
theorem u_759 : Cond.methodLink RX6 151 yX5_begin ∈ yU := yu_tables_1_3 223 (by decide +kernel) (by decide +kernel)
theorem u_760 : Cond.instanceMethod yX5_begin ∈ yU := yu_tables_1_3 224 (by decide +kernel) (by decide +kernel)
theorem u_761 : Cond.selects RX5 yX5_begin yX5_begin ∈ yU := yu_tables_1_3 225 (by decide +kernel) (by decide +kernel)
theorem u_291 : Cond.fieldLink RX6 26 "Pulsemesh" "results" "LPulsemesh$Results;" ∈ yU := yu_tables_1_1 235 (by decide +kernel) (by decide +kernel)
theorem u_783 : Cond.methodLink RX6 155 yX3_clear ∈ yU := yu_tables_1_4 7 (by decide +kernel) (by decide +kernel)
theorem u_784 : Cond.instanceMethod yX3_clear ∈ yU := yu_tables_1_4 8 (by decide +kernel) (by decide +kernel)
theorem u_785 : Cond.selects RX3 yX3_clear yX3_clear ∈ yU := yu_tables_1_4 9 (by decide +kernel) (by decide +kernel)
theorem u_757 : Cond.code yX6_start cX6_start 1 (some .int) ∈ yU := yu_tables_1_3 221 (by decide +kernel) (by decide +kernel)
theorem u_796 : Cond.methodLink RX6 165 yX5_pulse ∈ yU := yu_tables_1_4 20 (by decide +kernel) (by decide +kernel)
theorem u_797 : Cond.instanceMethod yX5_pulse ∈ yU := yu_tables_1_4 21 (by decide +kernel) (by decide +kernel)
theorem u_798 : Cond.selects RX5 yX5_pulse yX5_pulse ∈ yU := yu_tables_1_4 22 (by decide +kernel) (by decide +kernel)
theorem u_793 : Cond.code yX6_beat cX6_beat 3 (some .int) ∈ yU := yu_tables_1_4 17 (by decide +kernel) (by decide +kernel)
theorem u_836 : Cond.methodLink RX6 169 yX3_has ∈ yU := yu_tables_1_4 60 (by decide +kernel) (by decide +kernel)
theorem u_837 : Cond.instanceMethod yX3_has ∈ yU := yu_tables_1_4 61 (by decide +kernel) (by decide +kernel)
theorem u_838 : Cond.selects RX3 yX3_has yX3_has ∈ yU := yu_tables_1_4 62 (by decide +kernel) (by decide +kernel)
theorem u_835 : Cond.code yX6_bend cX6_bend 5 (some .int) ∈ yU := yu_tables_1_4 59 (by decide +kernel) (by decide +kernel)
theorem u_850 : Cond.methodLink RX6 187 yX3_judge ∈ yU := yu_tables_1_4 74 (by decide +kernel) (by decide +kernel)
theorem u_851 : Cond.instanceMethod yX3_judge ∈ yU := yu_tables_1_4 75 (by decide +kernel) (by decide +kernel)
theorem u_852 : Cond.selects RX3 yX3_judge yX3_judge ∈ yU := yu_tables_1_4 76 (by decide +kernel) (by decide +kernel)
theorem u_848 : Cond.code yX6_check cX6_check 1 (some .int) ∈ yU := yu_tables_1_4 72 (by decide +kernel) (by decide +kernel)
theorem yt_X6_149 : yT RX6 "java/lang/IllegalStateException" "there is no layout" 110 149 114 := ⟨by decide +kernel, u_707, u_72, by decide +kernel, ytb_2⟩
theorem yt_X6_161 : yT RX6 "java/lang/IllegalArgumentException" "beats are 1 to 300" 47 161 51 := ⟨by decide +kernel, u_571, u_70, by decide +kernel, ytb_0⟩
theorem yt_X6_163 : yT RX6 "java/lang/IllegalStateException" "no work runs" 110 163 114 := ⟨by decide +kernel, u_707, u_72, by decide +kernel, ytb_2⟩
theorem yt_X6_174 : yT RX6 "java/lang/IllegalArgumentException" "a result is bent by -999 to 999" 47 174 51 := ⟨by decide +kernel, u_571, u_70, by decide +kernel, ytb_0⟩
theorem yt_X6_172 : yT RX6 "java/lang/IndexOutOfBoundsException" "there is no such result" 69 172 73 := ⟨by decide +kernel, u_659, u_71, by decide +kernel, ytb_1⟩
theorem yt_X6_185 : yT RX6 "java/lang/IllegalStateException" "there are no results of a checked work" 110 185 114 := ⟨by decide +kernel, u_707, u_72, by decide +kernel, ytb_2⟩
theorem dX6_keepIfBetter_0 : decode cX6_keepIfBetter 0 = .ok (.aload_n 0, 1) := by decide +kernel
theorem dX6_keepIfBetter_1 : decode cX6_keepIfBetter 1 = .ok (.getfield 40, 3) := by decide +kernel
theorem dX6_keepIfBetter_4 : decode cX6_keepIfBetter 4 = .ok (.invokevirtual 146, 3) := by decide +kernel
theorem dX6_keepIfBetter_7 : decode cX6_keepIfBetter 7 = .ok (.ifCond .ne 17, 3) := by decide +kernel
theorem dX6_keepIfBetter_10 : decode cX6_keepIfBetter 10 = .ok (.aload_n 0, 1) := by decide +kernel
theorem dX6_keepIfBetter_11 : decode cX6_keepIfBetter 11 = .ok (.getfield 44, 3) := by decide +kernel
theorem dX6_keepIfBetter_14 : decode cX6_keepIfBetter 14 = .ok (.aload_n 0, 1) := by decide +kernel
theorem dX6_keepIfBetter_15 : decode cX6_keepIfBetter 15 = .ok (.getfield 40, 3) := by decide +kernel
theorem dX6_keepIfBetter_18 : decode cX6_keepIfBetter 18 = .ok (.invokevirtual 328, 3) := by decide +kernel
theorem dX6_keepIfBetter_21 : decode cX6_keepIfBetter 21 = .ok (.ifCond .eq 24, 3) := by decide +kernel
theorem dX6_keepIfBetter_24 : decode cX6_keepIfBetter 24 = .ok (.aload_n 0, 1) := by decide +kernel
theorem dX6_keepIfBetter_25 : decode cX6_keepIfBetter 25 = .ok (.getfield 40, 3) := by decide +kernel
theorem dX6_keepIfBetter_28 : decode cX6_keepIfBetter 28 = .ok (.aload_n 0, 1) := by decide +kernel
theorem dX6_keepIfBetter_29 : decode cX6_keepIfBetter 29 = .ok (.getfield 44, 3) := by decide +kernel
theorem dX6_keepIfBetter_32 : decode cX6_keepIfBetter 32 = .ok (.getfield 307, 3) := by decide +kernel
theorem dX6_keepIfBetter_35 : decode cX6_keepIfBetter 35 = .ok (.aload_n 0, 1) := by decide +kernel
theorem dX6_keepIfBetter_36 : decode cX6_keepIfBetter 36 = .ok (.getfield 44, 3) := by decide +kernel
theorem dX6_keepIfBetter_39 : decode cX6_keepIfBetter 39 = .ok (.getfield 308, 3) := by decide +kernel
theorem dX6_keepIfBetter_42 : decode cX6_keepIfBetter 42 = .ok (.invokevirtual 318, 3) := by decide +kernel
theorem dX6_keepIfBetter_45 : decode cX6_keepIfBetter 45 = .ok (.return_, 1) := by decide +kernel
def fX6_keepIfBetter (xy0 : Int32) (xy1 : Int32) (xy2 : Int32) (xy3 : Int32) (xy4 : Int32) (xy5 : Int32) (xy6 : Int32) (xy7 : Int32) (xy8 : Int32) (xy9 : Int32) (xt3 : Int32) (xt4 : Int32) (xt5 : Int32) (xt6 : Int32) (xt9 : Int32) : Option (Int32 × Int32 × Int32 × Int32 × Int32 × Int32 × Int32) := ((fX2_isEmpty xy3 xy4).bind fun x_1 => (if x_1 = 0 then ((fX2_isBetterThan xt5 xt6 xt9 xy5 xy6 xy9).bind fun x_10 => (if x_10 = 0 then some (xy3, xy4, xy5, xy6, xy7, xy8, xy9) else ((fX2_lay xy0 xy1 xy2 xt3 xt4).bind fun x_15 => some (x_15.1, x_15.2.1, x_15.2.2.1, x_15.2.2.2.1, x_15.2.2.2.2.1, x_15.2.2.2.2.2.1, x_15.2.2.2.2.2.2)))) else ((fX2_lay xy0 xy1 xy2 xt3 xt4).bind fun x_6 => some (x_6.1, x_6.2.1, x_6.2.2.1, x_6.2.2.2.1, x_6.2.2.2.2.1, x_6.2.2.2.2.2.1, x_6.2.2.2.2.2.2))))
abbrev hX6_keepIfBetter : Cond := .code yX6_keepIfBetter cX6_keepIfBetter 1 none
theorem mX6_keepIfBetter : yM yX6_keepIfBetter hX6_keepIfBetter 0 := ⟨u_377, u_57, by decide +kernel, by decide +kernel, by decide +kernel⟩
set_option maxHeartbeats 4000000 in
set_option maxRecDepth 100000 in
theorem kX6_keepIfBetter (l : Launch) (D : va_G) (cy : Nat → ClassId) (x : Nat) (xj : Nat) (xw : Nat) (xz : Nat) (xo : Nat) (xy : Nat) (xt : Nat) (xy0 : Int32) (xy1 : Int32) (xy2 : Int32) (xy3 : Int32) (xy4 : Int32) (xy5 : Int32) (xy6 : Int32) (xy7 : Int32) (xy8 : Int32) (xy9 : Int32) (xt0 : Int32) (xt1 : Int32) (xt2 : Int32) (xt3 : Int32) (xt4 : Int32) (xt5 : Int32) (xt6 : Int32) (xt7 : Int32) (xt8 : Int32) (xt9 : Int32) {res : Int32 × Int32 × Int32 × Int32 × Int32 × Int32 × Int32} (hR : fX6_keepIfBetter xy0 xy1 xy2 xy3 xy4 xy5 xy6 xy7 xy8 xy9 xt3 xt4 xt5 xt6 xt9 = some res) : YM l D cy yX6_keepIfBetter hX6_keepIfBetter 3 0 0 [.ref x] [[(x, .inr (8, [.ref xj, .ref xw, .ref xz, .ref xo, .ref xy, .ref xt]))], [(xy, .inr (4, [.int xy0, .int xy1, .int xy2, .int xy3, .int xy4, .int xy5, .int xy6, .int xy7, .int xy8, .int xy9]))], [(xt, .inr (4, [.int xt0, .int xt1, .int xt2, .int xt3, .int xt4, .int xt5, .int xt6, .int xt7, .int xt8, .int xt9]))]] (fun v u => v = none ∧ u = [[(x, .inr (8, [.ref xj, .ref xw, .ref xz, .ref xo, .ref xy, .ref xt]))], [(xy, .inr (4, [.int xy0, .int xy1, .int xy2, .int res.1, .int res.2.1, .int res.2.2.1, .int res.2.2.2.1, .int res.2.2.2.2.1, .int res.2.2.2.2.2.1, .int res.2.2.2.2.2.2]))], [(xt, .inr (4, [.int xt0, .int xt1, .int xt2, .int xt3, .int xt4, .int xt5, .int xt6, .int xt7, .int xt8, .int xt9]))]]) := by
  unfold fX6_keepIfBetter at hR
  refine YM.ofV (cc := cX6_keepIfBetter) (maxL := 1) (ret := none) (by decide +kernel) rfl (Nat.le_of_ble_eq_true rfl) [(0, .ref x)] rfl rfl (fun p e s m args below meth c A H0 Q C hnm ret => ?_)
  refine xr_aload_n (n := 1) (j := 0) C dX6_keepIfBetter_0 rfl rfl ?_
  refine xr_get (n := 4) C 0 rfl rfl 4 (by decide) in_X6 u_293 rfl (v := .ref xy) rfl dX6_keepIfBetter_1 rfl ?_
  obtain ⟨x_1, hx_1, hR⟩ := yf_b hR
  refine xr_callVp (n := 7) (As := []) (rest := []) C (kX2_isEmpty l D cy (y := xy) (y0 := xy0) (y1 := xy1) (y2 := xy2) (y3 := xy3) (y4 := xy4) (y5 := xy5) (y6 := xy6) (y7 := xy7) (y8 := xy8) (y9 := xy9) hx_1) mX2_isEmpty u_378 u_379 u_380 1 rfl rfl 3 [1] [0, 2] rfl (by decide +kernel) rfl rfl rfl rfl (Nat.le_of_ble_eq_true rfl) (Nat.le_of_ble_eq_true rfl) (Nat.le_of_ble_eq_true rfl) (Nat.le_of_ble_eq_true rfl) (Nat.le_of_ble_eq_true rfl) dX6_keepIfBetter_4 rfl (fun _ _ hp => hp.2) (fun v_2 hp_4 => ?_)
  obtain ⟨rfl, -⟩ := hp_4
  refine xr_st (st' := [.int x_1]) rfl ?_
  refine xr_if_ne (tgt := 24) (n := 10) C dX6_keepIfBetter_7 rfl rfl (fun c_5 => ?_) (fun c_5 => ?_)
  · replace hR := yf_f c_5 hR
    refine xr_aload_n (n := 25) (j := 0) C dX6_keepIfBetter_24 rfl rfl ?_
    refine xr_get (n := 28) C 0 rfl rfl 4 (by decide) in_X6 u_293 rfl (v := .ref xy) rfl dX6_keepIfBetter_25 rfl ?_
    refine xr_aload_n (n := 29) (j := 0) C dX6_keepIfBetter_28 rfl rfl ?_
    refine xr_get (n := 32) C 0 rfl rfl 5 (by decide) in_X6 u_294 rfl (v := .ref xt) rfl dX6_keepIfBetter_29 rfl ?_
    refine xr_getN (n := 35) C 2 rfl rfl 3 (by decide) in_X2 RX6 (List.mem_of_getElem? (i := 32) rfl) rfl (v := .int xt3) rfl dX6_keepIfBetter_32 rfl ?_
    refine xr_aload_n (n := 36) (j := 0) C dX6_keepIfBetter_35 rfl rfl ?_
    refine xr_get (n := 39) C 0 rfl rfl 5 (by decide) in_X6 u_294 rfl (v := .ref xt) rfl dX6_keepIfBetter_36 rfl ?_
    refine xr_getN (n := 42) C 2 rfl rfl 4 (by decide) in_X2 RX6 (List.mem_of_getElem? (i := 34) rfl) rfl (v := .int xt4) rfl dX6_keepIfBetter_39 rfl ?_
    obtain ⟨x_6, hx_6, hR⟩ := yf_b hR
    refine xr_callV (n := 45) (As := [.int xt3, .int xt4]) (rest := []) C (kX2_lay l D cy (y := xy) (y0 := xy0) (y1 := xy1) (y2 := xy2) (y3 := xy3) (y4 := xy4) (y5 := xy5) (y6 := xy6) (y7 := xy7) (y8 := xy8) (y9 := xy9) (i1 := xt3) (i2 := xt4) hx_6) mX2_lay u_354 u_355 u_356 1 rfl rfl 3 [1] [0, 2] rfl (by decide +kernel) rfl rfl rfl rfl (Nat.le_of_ble_eq_true rfl) (Nat.le_of_ble_eq_true rfl) (Nat.le_of_ble_eq_true rfl) (Nat.le_of_ble_eq_true rfl) (Nat.le_of_ble_eq_true rfl) dX6_keepIfBetter_42 rfl (fun v_7 u_8 hp_9 => ?_)
    obtain ⟨rfl, rfl⟩ := hp_9
    refine xr_perm C 3 [1, 0, 2] [] [[(x, .inr (8, [.ref xj, .ref xw, .ref xz, .ref xo, .ref xy, .ref xt]))], [(xy, .inr (4, [.int xy0, .int xy1, .int xy2, .int x_6.1, .int x_6.2.1, .int x_6.2.2.1, .int x_6.2.2.2.1, .int x_6.2.2.2.2.1, .int x_6.2.2.2.2.2.1, .int x_6.2.2.2.2.2.2]))], [(xt, .inr (4, [.int xt0, .int xt1, .int xt2, .int xt3, .int xt4, .int xt5, .int xt6, .int xt7, .int xt8, .int xt9]))]] rfl (by decide +kernel) rfl ?_
    obtain rfl := Option.some.inj hR
    exact ret ⟨rfl, rfl⟩ (Nat.le_of_ble_eq_true rfl) (Nat.le_of_ble_eq_true rfl) dX6_keepIfBetter_45
  · replace hR := yf_t c_5 hR
    refine xr_aload_n (n := 11) (j := 0) C dX6_keepIfBetter_10 rfl rfl ?_
    refine xr_get (n := 14) C 0 rfl rfl 5 (by decide) in_X6 u_294 rfl (v := .ref xt) rfl dX6_keepIfBetter_11 rfl ?_
    refine xr_aload_n (n := 15) (j := 0) C dX6_keepIfBetter_14 rfl rfl ?_
    refine xr_get (n := 18) C 0 rfl rfl 4 (by decide) in_X6 u_293 rfl (v := .ref xy) rfl dX6_keepIfBetter_15 rfl ?_
    obtain ⟨x_10, hx_10, hR⟩ := yf_b hR
    refine xr_callVp (n := 21) (As := [.ref xy]) (rest := []) C (kX2_isBetterThan l D cy (y := xt) (y0 := xt0) (y1 := xt1) (y2 := xt2) (y3 := xt3) (y4 := xt4) (y5 := xt5) (y6 := xt6) (y7 := xt7) (y8 := xt8) (y9 := xt9) (t := xy) (t0 := xy0) (t1 := xy1) (t2 := xy2) (t3 := xy3) (t4 := xy4) (t5 := xy5) (t6 := xy6) (t7 := xy7) (t8 := xy8) (t9 := xy9) hx_10) mX2_isBetterThan u_382 u_383 u_384 2 rfl rfl 3 [2, 1] [0] rfl (by decide +kernel) rfl rfl rfl rfl (Nat.le_of_ble_eq_true rfl) (Nat.le_of_ble_eq_true rfl) (Nat.le_of_ble_eq_true rfl) (Nat.le_of_ble_eq_true rfl) (Nat.le_of_ble_eq_true rfl) dX6_keepIfBetter_18 rfl (fun _ _ hp => hp.2) (fun v_11 hp_13 => ?_)
    obtain ⟨rfl, -⟩ := hp_13
    refine xr_st (st' := [.int x_10]) rfl ?_
    refine xr_if_eq (tgt := 45) (n := 24) C dX6_keepIfBetter_21 rfl rfl (fun c_14 => ?_) (fun c_14 => ?_)
    · replace hR := yf_t c_14 hR
      obtain rfl := Option.some.inj hR
      exact ret ⟨rfl, rfl⟩ (Nat.le_of_ble_eq_true rfl) (Nat.le_of_ble_eq_true rfl) dX6_keepIfBetter_45
    · replace hR := yf_f c_14 hR
      refine xr_aload_n (n := 25) (j := 0) C dX6_keepIfBetter_24 rfl rfl ?_
      refine xr_get (n := 28) C 0 rfl rfl 4 (by decide) in_X6 u_293 rfl (v := .ref xy) rfl dX6_keepIfBetter_25 rfl ?_
      refine xr_aload_n (n := 29) (j := 0) C dX6_keepIfBetter_28 rfl rfl ?_
      refine xr_get (n := 32) C 0 rfl rfl 5 (by decide) in_X6 u_294 rfl (v := .ref xt) rfl dX6_keepIfBetter_29 rfl ?_
      refine xr_getN (n := 35) C 2 rfl rfl 3 (by decide) in_X2 RX6 (List.mem_of_getElem? (i := 32) rfl) rfl (v := .int xt3) rfl dX6_keepIfBetter_32 rfl ?_
      refine xr_aload_n (n := 36) (j := 0) C dX6_keepIfBetter_35 rfl rfl ?_
      refine xr_get (n := 39) C 0 rfl rfl 5 (by decide) in_X6 u_294 rfl (v := .ref xt) rfl dX6_keepIfBetter_36 rfl ?_
      refine xr_getN (n := 42) C 2 rfl rfl 4 (by decide) in_X2 RX6 (List.mem_of_getElem? (i := 34) rfl) rfl (v := .int xt4) rfl dX6_keepIfBetter_39 rfl ?_
      obtain ⟨x_15, hx_15, hR⟩ := yf_b hR
      refine xr_callV (n := 45) (As := [.int xt3, .int xt4]) (rest := []) C (kX2_lay l D cy (y := xy) (y0 := xy0) (y1 := xy1) (y2 := xy2) (y3 := xy3) (y4 := xy4) (y5 := xy5) (y6 := xy6) (y7 := xy7) (y8 := xy8) (y9 := xy9) (i1 := xt3) (i2 := xt4) hx_15) mX2_lay u_354 u_355 u_356 1 rfl rfl 3 [1] [0, 2] rfl (by decide +kernel) rfl rfl rfl rfl (Nat.le_of_ble_eq_true rfl) (Nat.le_of_ble_eq_true rfl) (Nat.le_of_ble_eq_true rfl) (Nat.le_of_ble_eq_true rfl) (Nat.le_of_ble_eq_true rfl) dX6_keepIfBetter_42 rfl (fun v_16 u_17 hp_18 => ?_)
      obtain ⟨rfl, rfl⟩ := hp_18
      refine xr_perm C 3 [1, 0, 2] [] [[(x, .inr (8, [.ref xj, .ref xw, .ref xz, .ref xo, .ref xy, .ref xt]))], [(xy, .inr (4, [.int xy0, .int xy1, .int xy2, .int x_15.1, .int x_15.2.1, .int x_15.2.2.1, .int x_15.2.2.2.1, .int x_15.2.2.2.2.1, .int x_15.2.2.2.2.2.1, .int x_15.2.2.2.2.2.2]))], [(xt, .inr (4, [.int xt0, .int xt1, .int xt2, .int xt3, .int xt4, .int xt5, .int xt6, .int xt7, .int xt8, .int xt9]))]] rfl (by decide +kernel) rfl ?_
      obtain rfl := Option.some.inj hR
      exact ret ⟨rfl, rfl⟩ (Nat.le_of_ble_eq_true rfl) (Nat.le_of_ble_eq_true rfl) dX6_keepIfBetter_45
theorem dX6_findBest_0 : decode cX6_findBest 0 = .ok (.aload_n 0, 1) := by decide +kernel
theorem dX6_findBest_1 : decode cX6_findBest 1 = .ok (.getfield 40, 3) := by decide +kernel
theorem dX6_findBest_4 : decode cX6_findBest 4 = .ok (.aload_n 0, 1) := by decide +kernel
theorem dX6_findBest_5 : decode cX6_findBest 5 = .ok (.getfield 10, 3) := by decide +kernel
theorem dX6_findBest_8 : decode cX6_findBest 8 = .ok (.invokevirtual 231, 3) := by decide +kernel
theorem dX6_findBest_11 : decode cX6_findBest 11 = .ok (.aload_n 0, 1) := by decide +kernel
theorem dX6_findBest_12 : decode cX6_findBest 12 = .ok (.getfield 40, 3) := by decide +kernel
theorem dX6_findBest_15 : decode cX6_findBest 15 = .ok (.iconst 0, 1) := by decide +kernel
theorem dX6_findBest_16 : decode cX6_findBest 16 = .ok (.iconst 0, 1) := by decide +kernel
theorem dX6_findBest_17 : decode cX6_findBest 17 = .ok (.invokevirtual 318, 3) := by decide +kernel
theorem dX6_findBest_20 : decode cX6_findBest 20 = .ok (.aload_n 0, 1) := by decide +kernel
theorem dX6_findBest_21 : decode cX6_findBest 21 = .ok (.getfield 44, 3) := by decide +kernel
theorem dX6_findBest_24 : decode cX6_findBest 24 = .ok (.aload_n 0, 1) := by decide +kernel
theorem dX6_findBest_25 : decode cX6_findBest 25 = .ok (.getfield 10, 3) := by decide +kernel
theorem dX6_findBest_28 : decode cX6_findBest 28 = .ok (.invokevirtual 231, 3) := by decide +kernel
theorem dX6_findBest_31 : decode cX6_findBest 31 = .ok (.iconst 1, 1) := by decide +kernel
theorem dX6_findBest_32 : decode cX6_findBest 32 = .ok (.istore_n 1, 1) := by decide +kernel
theorem dX6_findBest_33 : decode cX6_findBest 33 = .ok (.iload_n 1, 1) := by decide +kernel
theorem dX6_findBest_34 : decode cX6_findBest 34 = .ok (.bipush 31, 2) := by decide +kernel
theorem dX6_findBest_36 : decode cX6_findBest 36 = .ok (.if_icmp .gt 51, 3) := by decide +kernel
theorem dX6_findBest_39 : decode cX6_findBest 39 = .ok (.aload_n 0, 1) := by decide +kernel
theorem dX6_findBest_40 : decode cX6_findBest 40 = .ok (.getfield 19, 3) := by decide +kernel
theorem dX6_findBest_43 : decode cX6_findBest 43 = .ok (.iload_n 1, 1) := by decide +kernel
theorem dX6_findBest_44 : decode cX6_findBest 44 = .ok (.invokevirtual 322, 3) := by decide +kernel
theorem dX6_findBest_47 : decode cX6_findBest 47 = .ok (.istore_n 2, 1) := by decide +kernel
theorem dX6_findBest_48 : decode cX6_findBest 48 = .ok (.iconst 1, 1) := by decide +kernel
theorem dX6_findBest_49 : decode cX6_findBest 49 = .ok (.istore_n 3, 1) := by decide +kernel
theorem dX6_findBest_50 : decode cX6_findBest 50 = .ok (.iload_n 3, 1) := by decide +kernel
theorem dX6_findBest_51 : decode cX6_findBest 51 = .ok (.bipush 31, 2) := by decide +kernel
theorem dX6_findBest_53 : decode cX6_findBest 53 = .ok (.if_icmp .gt 28, 3) := by decide +kernel
theorem dX6_findBest_56 : decode cX6_findBest 56 = .ok (.iload_n 3, 1) := by decide +kernel
theorem dX6_findBest_57 : decode cX6_findBest 57 = .ok (.iload_n 2, 1) := by decide +kernel
theorem dX6_findBest_58 : decode cX6_findBest 58 = .ok (.iand, 1) := by decide +kernel
theorem dX6_findBest_59 : decode cX6_findBest 59 = .ok (.ifCond .ne 16, 3) := by decide +kernel
theorem dX6_findBest_62 : decode cX6_findBest 62 = .ok (.aload_n 0, 1) := by decide +kernel
theorem dX6_findBest_63 : decode cX6_findBest 63 = .ok (.getfield 44, 3) := by decide +kernel
theorem dX6_findBest_66 : decode cX6_findBest 66 = .ok (.iload_n 1, 1) := by decide +kernel
theorem dX6_findBest_67 : decode cX6_findBest 67 = .ok (.iload_n 3, 1) := by decide +kernel
theorem dX6_findBest_68 : decode cX6_findBest 68 = .ok (.invokevirtual 318, 3) := by decide +kernel
theorem dX6_findBest_71 : decode cX6_findBest 71 = .ok (.aload_n 0, 1) := by decide +kernel
theorem dX6_findBest_72 : decode cX6_findBest 72 = .ok (.invokevirtual 325, 3) := by decide +kernel
theorem dX6_findBest_75 : decode cX6_findBest 75 = .ok (.iinc 3 1, 3) := by decide +kernel
theorem dX6_findBest_78 : decode cX6_findBest 78 = .ok (.goto (-28), 3) := by decide +kernel
theorem dX6_findBest_81 : decode cX6_findBest 81 = .ok (.iinc 1 1, 3) := by decide +kernel
theorem dX6_findBest_84 : decode cX6_findBest 84 = .ok (.goto (-51), 3) := by decide +kernel
theorem dX6_findBest_87 : decode cX6_findBest 87 = .ok (.return_, 1) := by decide +kernel
def fX6_findBest (xjr : Int32) (xjk : Int32) (xjc : Int32) (xjg : Int32) (xjs : Int32) (xjaf : Nat → Int32) (xjbf : Nat → Int32) (xwk : Int32) (xt3 : Int32) (xt4 : Int32) (xt5 : Int32) (xt6 : Int32) (xt7 : Int32) (xt8 : Int32) (xt9 : Int32) : Option (Int32 × Int32 × Int32 × Int32 × Int32 × Int32 × Int32 × Int32 × Int32 × Int32 × Int32 × Int32 × Int32 × Int32 × Int32 × Int32 × Int32 × Int32 × Int32 × Int32) := ((fX2_measure xjr xjk xjc xjg xjs xjaf xjbf).bind fun x_1 => ((fX2_lay x_1.1 x_1.2.1 x_1.2.2 0 0).bind fun x_5 => ((fX2_measure xjr xjk xjc xjg xjs xjaf xjbf).bind fun x_9 => ((wl (S := Int32 × Int32 × Int32 × Int32 × Int32 × Int32 × Int32 × Int32 × Int32 × Int32 × Int32 × Int32 × Int32 × Int32 × Int32) (B := Int32 × Int32 × Int32 × Int32 × Int32 × Int32 × Int32 × Int32 × Int32 × Int32 × Int32 × Int32 × Int32 × Int32 × Int32) (fun s_13 => (if 31 < s_13.1 then some (.inr (s_13.1, s_13.2.1, s_13.2.2.1, s_13.2.2.2.1, s_13.2.2.2.2.1, s_13.2.2.2.2.2.1, s_13.2.2.2.2.2.2.1, s_13.2.2.2.2.2.2.2.1, s_13.2.2.2.2.2.2.2.2.1, s_13.2.2.2.2.2.2.2.2.2.1, s_13.2.2.2.2.2.2.2.2.2.2.1, s_13.2.2.2.2.2.2.2.2.2.2.2.1, s_13.2.2.2.2.2.2.2.2.2.2.2.2.1, s_13.2.2.2.2.2.2.2.2.2.2.2.2.2.1, s_13.2.2.2.2.2.2.2.2.2.2.2.2.2.2)) else ((fX0_knownColumns xwk s_13.1).bind fun x_16 => ((wl (S := Int32 × Int32 × Int32 × Int32 × Int32 × Int32 × Int32 × Int32 × Int32 × Int32 × Int32 × Int32 × Int32 × Int32 × Int32) (B := Int32 × Int32 × Int32 × Int32 × Int32 × Int32 × Int32 × Int32 × Int32 × Int32 × Int32 × Int32 × Int32 × Int32 × Int32) (fun s_20 => (if 31 < s_20.1 then some (.inr (s_20.1, s_20.2.1, s_20.2.2.1, s_20.2.2.2.1, s_20.2.2.2.2.1, s_20.2.2.2.2.2.1, s_20.2.2.2.2.2.2.1, s_20.2.2.2.2.2.2.2.1, s_20.2.2.2.2.2.2.2.2.1, s_20.2.2.2.2.2.2.2.2.2.1, s_20.2.2.2.2.2.2.2.2.2.2.1, s_20.2.2.2.2.2.2.2.2.2.2.2.1, s_20.2.2.2.2.2.2.2.2.2.2.2.2.1, s_20.2.2.2.2.2.2.2.2.2.2.2.2.2.1, s_20.2.2.2.2.2.2.2.2.2.2.2.2.2.2)) else (if (s_20.1 &&& x_16) = 0 then ((fX2_lay x_9.1 x_9.2.1 x_9.2.2 s_13.1 s_20.1).bind fun x_24 => ((fX6_keepIfBetter x_1.1 x_1.2.1 x_1.2.2 s_20.2.1 s_20.2.2.1 s_20.2.2.2.1 s_20.2.2.2.2.1 s_20.2.2.2.2.2.1 s_20.2.2.2.2.2.2.1 s_20.2.2.2.2.2.2.2.1 x_24.1 x_24.2.1 x_24.2.2.1 x_24.2.2.2.1 x_24.2.2.2.2.2.2).bind fun x_28 => some (.inl (s_20.1 + 1, x_28.1, x_28.2.1, x_28.2.2.1, x_28.2.2.2.1, x_28.2.2.2.2.1, x_28.2.2.2.2.2.1, x_28.2.2.2.2.2.2, x_24.1, x_24.2.1, x_24.2.2.1, x_24.2.2.2.1, x_24.2.2.2.2.1, x_24.2.2.2.2.2.1, x_24.2.2.2.2.2.2)))) else some (.inl (s_20.1 + 1, s_20.2.1, s_20.2.2.1, s_20.2.2.2.1, s_20.2.2.2.2.1, s_20.2.2.2.2.2.1, s_20.2.2.2.2.2.2.1, s_20.2.2.2.2.2.2.2.1, s_20.2.2.2.2.2.2.2.2.1, s_20.2.2.2.2.2.2.2.2.2.1, s_20.2.2.2.2.2.2.2.2.2.2.1, s_20.2.2.2.2.2.2.2.2.2.2.2.1, s_20.2.2.2.2.2.2.2.2.2.2.2.2.1, s_20.2.2.2.2.2.2.2.2.2.2.2.2.2.1, s_20.2.2.2.2.2.2.2.2.2.2.2.2.2.2))))) yFuel (1, s_13.2.1, s_13.2.2.1, s_13.2.2.2.1, s_13.2.2.2.2.1, s_13.2.2.2.2.2.1, s_13.2.2.2.2.2.2.1, s_13.2.2.2.2.2.2.2.1, s_13.2.2.2.2.2.2.2.2.1, s_13.2.2.2.2.2.2.2.2.2.1, s_13.2.2.2.2.2.2.2.2.2.2.1, s_13.2.2.2.2.2.2.2.2.2.2.2.1, s_13.2.2.2.2.2.2.2.2.2.2.2.2.1, s_13.2.2.2.2.2.2.2.2.2.2.2.2.2.1, s_13.2.2.2.2.2.2.2.2.2.2.2.2.2.2)).bind fun b_20 => some (.inl (s_13.1 + 1, b_20.2.1, b_20.2.2.1, b_20.2.2.2.1, b_20.2.2.2.2.1, b_20.2.2.2.2.2.1, b_20.2.2.2.2.2.2.1, b_20.2.2.2.2.2.2.2.1, b_20.2.2.2.2.2.2.2.2.1, b_20.2.2.2.2.2.2.2.2.2.1, b_20.2.2.2.2.2.2.2.2.2.2.1, b_20.2.2.2.2.2.2.2.2.2.2.2.1, b_20.2.2.2.2.2.2.2.2.2.2.2.2.1, b_20.2.2.2.2.2.2.2.2.2.2.2.2.2.1, b_20.2.2.2.2.2.2.2.2.2.2.2.2.2.2)))))) yFuel (1, x_5.1, x_5.2.1, x_5.2.2.1, x_5.2.2.2.1, x_5.2.2.2.2.1, x_5.2.2.2.2.2.1, x_5.2.2.2.2.2.2, xt3, xt4, xt5, xt6, xt7, xt8, xt9)).bind fun b_13 => some (x_1.1, x_1.2.1, x_1.2.2, b_13.2.1, b_13.2.2.1, b_13.2.2.2.1, b_13.2.2.2.2.1, b_13.2.2.2.2.2.1, b_13.2.2.2.2.2.2.1, b_13.2.2.2.2.2.2.2.1, x_9.1, x_9.2.1, x_9.2.2, b_13.2.2.2.2.2.2.2.2.1, b_13.2.2.2.2.2.2.2.2.2.1, b_13.2.2.2.2.2.2.2.2.2.2.1, b_13.2.2.2.2.2.2.2.2.2.2.2.1, b_13.2.2.2.2.2.2.2.2.2.2.2.2.1, b_13.2.2.2.2.2.2.2.2.2.2.2.2.2.1, b_13.2.2.2.2.2.2.2.2.2.2.2.2.2.2)))))
abbrev hX6_findBest : Cond := .code yX6_findBest cX6_findBest 4 none
theorem mX6_findBest : yM yX6_findBest hX6_findBest 0 := ⟨u_315, u_57, by decide +kernel, by decide +kernel, by decide +kernel⟩
set_option maxHeartbeats 4000000 in
set_option maxRecDepth 100000 in
theorem kX6_findBest (l : Launch) (D : va_G) (cy : Nat → ClassId) (x : Nat) (xj : Nat) (xw : Nat) (xz : Nat) (xo : Nat) (xy : Nat) (xt : Nat) (xja : Nat) (xjb : Nat) (xjr : Int32) (xjk : Int32) (xjc : Int32) (xjg : Int32) (xjs : Int32) (xjan : Nat) (xjaf : Nat → Int32) (xjbn : Nat) (xjbf : Nat → Int32) (xwu : Nat) (xwm : Nat) (xwb : Int32) (xwk : Int32) (xy0 : Int32) (xy1 : Int32) (xy2 : Int32) (xy3 : Int32) (xy4 : Int32) (xy5 : Int32) (xy6 : Int32) (xy7 : Int32) (xy8 : Int32) (xy9 : Int32) (xt0 : Int32) (xt1 : Int32) (xt2 : Int32) (xt3 : Int32) (xt4 : Int32) (xt5 : Int32) (xt6 : Int32) (xt7 : Int32) (xt8 : Int32) (xt9 : Int32) {res : Int32 × Int32 × Int32 × Int32 × Int32 × Int32 × Int32 × Int32 × Int32 × Int32 × Int32 × Int32 × Int32 × Int32 × Int32 × Int32 × Int32 × Int32 × Int32 × Int32} (hR : fX6_findBest xjr xjk xjc xjg xjs xjaf xjbf xwk xt3 xt4 xt5 xt6 xt7 xt8 xt9 = some res) : YM l D cy yX6_findBest hX6_findBest 6 0 0 [.ref x] [[(x, .inr (8, [.ref xj, .ref xw, .ref xz, .ref xo, .ref xy, .ref xt]))], [(xj, .inr (3, [.ref xja, .ref xjb, .int xjr, .int xjk, .int xjc, .int xjg, .int xjs]))], [(xja, .inr (6, [.ref xjan]))], [(xjan, .inl (cy 1, 81, .inl xjaf))], [(xjb, .inr (6, [.ref xjbn]))], [(xjbn, .inl (cy 1, 81, .inl xjbf))], [(xw, .inr (2, [.ref xwu, .ref xwm, .int xwb, .int xwk]))], [(xy, .inr (4, [.int xy0, .int xy1, .int xy2, .int xy3, .int xy4, .int xy5, .int xy6, .int xy7, .int xy8, .int xy9]))], [(xt, .inr (4, [.int xt0, .int xt1, .int xt2, .int xt3, .int xt4, .int xt5, .int xt6, .int xt7, .int xt8, .int xt9]))]] (fun v u => v = none ∧ u = [[(x, .inr (8, [.ref xj, .ref xw, .ref xz, .ref xo, .ref xy, .ref xt]))], [(xj, .inr (3, [.ref xja, .ref xjb, .int xjr, .int xjk, .int xjc, .int xjg, .int xjs]))], [(xja, .inr (6, [.ref xjan]))], [(xjan, .inl (cy 1, 81, .inl xjaf))], [(xjb, .inr (6, [.ref xjbn]))], [(xjbn, .inl (cy 1, 81, .inl xjbf))], [(xw, .inr (2, [.ref xwu, .ref xwm, .int xwb, .int xwk]))], [(xy, .inr (4, [.int res.1, .int res.2.1, .int res.2.2.1, .int res.2.2.2.1, .int res.2.2.2.2.1, .int res.2.2.2.2.2.1, .int res.2.2.2.2.2.2.1, .int res.2.2.2.2.2.2.2.1, .int res.2.2.2.2.2.2.2.2.1, .int res.2.2.2.2.2.2.2.2.2.1]))], [(xt, .inr (4, [.int res.2.2.2.2.2.2.2.2.2.2.1, .int res.2.2.2.2.2.2.2.2.2.2.2.1, .int res.2.2.2.2.2.2.2.2.2.2.2.2.1, .int res.2.2.2.2.2.2.2.2.2.2.2.2.2.1, .int res.2.2.2.2.2.2.2.2.2.2.2.2.2.2.1, .int res.2.2.2.2.2.2.2.2.2.2.2.2.2.2.2.1, .int res.2.2.2.2.2.2.2.2.2.2.2.2.2.2.2.2.1, .int res.2.2.2.2.2.2.2.2.2.2.2.2.2.2.2.2.2.1, .int res.2.2.2.2.2.2.2.2.2.2.2.2.2.2.2.2.2.2.1, .int res.2.2.2.2.2.2.2.2.2.2.2.2.2.2.2.2.2.2.2]))]]) := by
  unfold fX6_findBest at hR
  refine YM.ofV (cc := cX6_findBest) (maxL := 4) (ret := none) (by decide +kernel) rfl (Nat.le_of_ble_eq_true rfl) [(0, .ref x)] rfl rfl (fun p e s m args below meth c A H0 Q C hnm ret => ?_)
  refine xr_aload_n (n := 1) (j := 0) C dX6_findBest_0 rfl rfl ?_
  refine xr_get (n := 4) C 0 rfl rfl 4 (by decide) in_X6 u_293 rfl (v := .ref xy) rfl dX6_findBest_1 rfl ?_
  refine xr_aload_n (n := 5) (j := 0) C dX6_findBest_4 rfl rfl ?_
  refine xr_get (n := 8) C 0 rfl rfl 0 (by decide) in_X6 u_289 rfl (v := .ref xj) rfl dX6_findBest_5 rfl ?_
  obtain ⟨x_1, hx_1, hR⟩ := yf_b hR
  refine xr_callV (n := 11) (As := [.ref xj]) (rest := []) C (kX2_measure l D cy (y := xy) (y0 := xy0) (y1 := xy1) (y2 := xy2) (y3 := xy3) (y4 := xy4) (y5 := xy5) (y6 := xy6) (y7 := xy7) (y8 := xy8) (y9 := xy9) (j := xj) (ja := xja) (jb := xjb) (jr := xjr) (jk := xjk) (jc := xjc) (jg := xjg) (js := xjs) (jan := xjan) (jaf := xjaf) (jbn := xjbn) (jbf := xjbf) hx_1) mX2_measure u_316 u_317 u_318 7 rfl rfl 9 [7, 1, 2, 3, 4, 5] [0, 6, 8] rfl (by decide +kernel) rfl rfl rfl rfl (Nat.le_of_ble_eq_true rfl) (Nat.le_of_ble_eq_true rfl) (Nat.le_of_ble_eq_true rfl) (Nat.le_of_ble_eq_true rfl) (Nat.le_of_ble_eq_true rfl) dX6_findBest_8 rfl (fun v_2 u_3 hp_4 => ?_)
  obtain ⟨rfl, rfl⟩ := hp_4
  refine xr_perm C 9 [6, 1, 2, 3, 4, 5, 7, 0, 8] [] [[(x, .inr (8, [.ref xj, .ref xw, .ref xz, .ref xo, .ref xy, .ref xt]))], [(xj, .inr (3, [.ref xja, .ref xjb, .int xjr, .int xjk, .int xjc, .int xjg, .int xjs]))], [(xja, .inr (6, [.ref xjan]))], [(xjan, .inl (cy 1, 81, .inl xjaf))], [(xjb, .inr (6, [.ref xjbn]))], [(xjbn, .inl (cy 1, 81, .inl xjbf))], [(xw, .inr (2, [.ref xwu, .ref xwm, .int xwb, .int xwk]))], [(xy, .inr (4, [.int x_1.1, .int x_1.2.1, .int x_1.2.2, .int xy3, .int xy4, .int xy5, .int xy6, .int xy7, .int xy8, .int xy9]))], [(xt, .inr (4, [.int xt0, .int xt1, .int xt2, .int xt3, .int xt4, .int xt5, .int xt6, .int xt7, .int xt8, .int xt9]))]] rfl (by decide +kernel) rfl ?_
  refine xr_aload_n (n := 12) (j := 0) C dX6_findBest_11 rfl rfl ?_
  refine xr_get (n := 15) C 0 rfl rfl 4 (by decide) in_X6 u_293 rfl (v := .ref xy) rfl dX6_findBest_12 rfl ?_
  refine xr_iconst (n := 16) (v := 0) C dX6_findBest_15 rfl rfl ?_
  refine xr_iconst (n := 17) (v := 0) C dX6_findBest_16 rfl rfl ?_
  obtain ⟨x_5, hx_5, hR⟩ := yf_b hR
  refine xr_callV (n := 20) (As := [.int 0, .int 0]) (rest := []) C (kX2_lay l D cy (y := xy) (y0 := x_1.1) (y1 := x_1.2.1) (y2 := x_1.2.2) (y3 := xy3) (y4 := xy4) (y5 := xy5) (y6 := xy6) (y7 := xy7) (y8 := xy8) (y9 := xy9) (i1 := 0) (i2 := 0) hx_5) mX2_lay u_354 u_355 u_356 7 rfl rfl 9 [7] [0, 1, 2, 3, 4, 5, 6, 8] rfl (by decide +kernel) rfl rfl rfl rfl (Nat.le_of_ble_eq_true rfl) (Nat.le_of_ble_eq_true rfl) (Nat.le_of_ble_eq_true rfl) (Nat.le_of_ble_eq_true rfl) (Nat.le_of_ble_eq_true rfl) dX6_findBest_17 rfl (fun v_6 u_7 hp_8 => ?_)
  obtain ⟨rfl, rfl⟩ := hp_8
  refine xr_perm C 9 [1, 2, 3, 4, 5, 6, 7, 0, 8] [] [[(x, .inr (8, [.ref xj, .ref xw, .ref xz, .ref xo, .ref xy, .ref xt]))], [(xj, .inr (3, [.ref xja, .ref xjb, .int xjr, .int xjk, .int xjc, .int xjg, .int xjs]))], [(xja, .inr (6, [.ref xjan]))], [(xjan, .inl (cy 1, 81, .inl xjaf))], [(xjb, .inr (6, [.ref xjbn]))], [(xjbn, .inl (cy 1, 81, .inl xjbf))], [(xw, .inr (2, [.ref xwu, .ref xwm, .int xwb, .int xwk]))], [(xy, .inr (4, [.int x_1.1, .int x_1.2.1, .int x_1.2.2, .int x_5.1, .int x_5.2.1, .int x_5.2.2.1, .int x_5.2.2.2.1, .int x_5.2.2.2.2.1, .int x_5.2.2.2.2.2.1, .int x_5.2.2.2.2.2.2]))], [(xt, .inr (4, [.int xt0, .int xt1, .int xt2, .int xt3, .int xt4, .int xt5, .int xt6, .int xt7, .int xt8, .int xt9]))]] rfl (by decide +kernel) rfl ?_
  refine xr_aload_n (n := 21) (j := 0) C dX6_findBest_20 rfl rfl ?_
  refine xr_get (n := 24) C 0 rfl rfl 5 (by decide) in_X6 u_294 rfl (v := .ref xt) rfl dX6_findBest_21 rfl ?_
  refine xr_aload_n (n := 25) (j := 0) C dX6_findBest_24 rfl rfl ?_
  refine xr_get (n := 28) C 0 rfl rfl 0 (by decide) in_X6 u_289 rfl (v := .ref xj) rfl dX6_findBest_25 rfl ?_
  obtain ⟨x_9, hx_9, hR⟩ := yf_b hR
  refine xr_callV (n := 31) (As := [.ref xj]) (rest := []) C (kX2_measure l D cy (y := xt) (y0 := xt0) (y1 := xt1) (y2 := xt2) (y3 := xt3) (y4 := xt4) (y5 := xt5) (y6 := xt6) (y7 := xt7) (y8 := xt8) (y9 := xt9) (j := xj) (ja := xja) (jb := xjb) (jr := xjr) (jk := xjk) (jc := xjc) (jg := xjg) (js := xjs) (jan := xjan) (jaf := xjaf) (jbn := xjbn) (jbf := xjbf) hx_9) mX2_measure u_316 u_317 u_318 8 rfl rfl 9 [8, 1, 2, 3, 4, 5] [0, 6, 7] rfl (by decide +kernel) rfl rfl rfl rfl (Nat.le_of_ble_eq_true rfl) (Nat.le_of_ble_eq_true rfl) (Nat.le_of_ble_eq_true rfl) (Nat.le_of_ble_eq_true rfl) (Nat.le_of_ble_eq_true rfl) dX6_findBest_28 rfl (fun v_10 u_11 hp_12 => ?_)
  obtain ⟨rfl, rfl⟩ := hp_12
  refine xr_perm C 9 [6, 1, 2, 3, 4, 5, 7, 8, 0] [] [[(x, .inr (8, [.ref xj, .ref xw, .ref xz, .ref xo, .ref xy, .ref xt]))], [(xj, .inr (3, [.ref xja, .ref xjb, .int xjr, .int xjk, .int xjc, .int xjg, .int xjs]))], [(xja, .inr (6, [.ref xjan]))], [(xjan, .inl (cy 1, 81, .inl xjaf))], [(xjb, .inr (6, [.ref xjbn]))], [(xjbn, .inl (cy 1, 81, .inl xjbf))], [(xw, .inr (2, [.ref xwu, .ref xwm, .int xwb, .int xwk]))], [(xy, .inr (4, [.int x_1.1, .int x_1.2.1, .int x_1.2.2, .int x_5.1, .int x_5.2.1, .int x_5.2.2.1, .int x_5.2.2.2.1, .int x_5.2.2.2.2.1, .int x_5.2.2.2.2.2.1, .int x_5.2.2.2.2.2.2]))], [(xt, .inr (4, [.int x_9.1, .int x_9.2.1, .int x_9.2.2, .int xt3, .int xt4, .int xt5, .int xt6, .int xt7, .int xt8, .int xt9]))]] rfl (by decide +kernel) rfl ?_
  refine xr_iconst (n := 32) (v := 1) C dX6_findBest_31 rfl rfl ?_
  refine xr_istore_n (n := 33) C [(1, .int 1), (0, .ref x)] dX6_findBest_32 (by decide) rfl rfl ?_
  refine xr_lv (lv' := [(0, .ref x), (1, .int 1)]) [1, 0] rfl ?_
  obtain ⟨b_13, hb_13, hR⟩ := yf_b hR
  have K_13 : X p l e (yR 6 0 0) s m args below meth c D A H0 4 Q [[(x, .inr (8, [.ref xj, .ref xw, .ref xz, .ref xo, .ref xy, .ref xt]))], [(xj, .inr (3, [.ref xja, .ref xjb, .int xjr, .int xjk, .int xjc, .int xjg, .int xjs]))], [(xja, .inr (6, [.ref xjan]))], [(xjan, .inl (cy 1, 81, .inl xjaf))], [(xjb, .inr (6, [.ref xjbn]))], [(xjbn, .inl (cy 1, 81, .inl xjbf))], [(xw, .inr (2, [.ref xwu, .ref xwm, .int xwb, .int xwk]))], [(xy, .inr (4, [.int x_1.1, .int x_1.2.1, .int x_1.2.2, .int b_13.2.1, .int b_13.2.2.1, .int b_13.2.2.2.1, .int b_13.2.2.2.2.1, .int b_13.2.2.2.2.2.1, .int b_13.2.2.2.2.2.2.1, .int b_13.2.2.2.2.2.2.2.1]))], [(xt, .inr (4, [.int x_9.1, .int x_9.2.1, .int x_9.2.2, .int b_13.2.2.2.2.2.2.2.2.1, .int b_13.2.2.2.2.2.2.2.2.2.1, .int b_13.2.2.2.2.2.2.2.2.2.2.1, .int b_13.2.2.2.2.2.2.2.2.2.2.2.1, .int b_13.2.2.2.2.2.2.2.2.2.2.2.2.1, .int b_13.2.2.2.2.2.2.2.2.2.2.2.2.2.1, .int b_13.2.2.2.2.2.2.2.2.2.2.2.2.2.2]))]] 0 0 [] 87 [] := by
    obtain rfl := Option.some.inj hR
    exact ret ⟨rfl, rfl⟩ (Nat.le_of_ble_eq_true rfl) (Nat.le_of_ble_eq_true rfl) dX6_findBest_87
  refine y_loop (P := fun (s_13 : Int32 × Int32 × Int32 × Int32 × Int32 × Int32 × Int32 × Int32 × Int32 × Int32 × Int32 × Int32 × Int32 × Int32 × Int32) => X p l e (yR 6 0 0) s m args below meth c D A H0 4 Q [[(x, .inr (8, [.ref xj, .ref xw, .ref xz, .ref xo, .ref xy, .ref xt]))], [(xj, .inr (3, [.ref xja, .ref xjb, .int xjr, .int xjk, .int xjc, .int xjg, .int xjs]))], [(xja, .inr (6, [.ref xjan]))], [(xjan, .inl (cy 1, 81, .inl xjaf))], [(xjb, .inr (6, [.ref xjbn]))], [(xjbn, .inl (cy 1, 81, .inl xjbf))], [(xw, .inr (2, [.ref xwu, .ref xwm, .int xwb, .int xwk]))], [(xy, .inr (4, [.int x_1.1, .int x_1.2.1, .int x_1.2.2, .int s_13.2.1, .int s_13.2.2.1, .int s_13.2.2.2.1, .int s_13.2.2.2.2.1, .int s_13.2.2.2.2.2.1, .int s_13.2.2.2.2.2.2.1, .int s_13.2.2.2.2.2.2.2.1]))], [(xt, .inr (4, [.int x_9.1, .int x_9.2.1, .int x_9.2.2, .int s_13.2.2.2.2.2.2.2.2.1, .int s_13.2.2.2.2.2.2.2.2.2.1, .int s_13.2.2.2.2.2.2.2.2.2.2.1, .int s_13.2.2.2.2.2.2.2.2.2.2.2.1, .int s_13.2.2.2.2.2.2.2.2.2.2.2.2.1, .int s_13.2.2.2.2.2.2.2.2.2.2.2.2.2.1, .int s_13.2.2.2.2.2.2.2.2.2.2.2.2.2.2]))]] 0 0 [(0, .ref x), (1, .int s_13.1)] 33 []) ?_ _ (1, x_5.1, x_5.2.1, x_5.2.2.1, x_5.2.2.2.1, x_5.2.2.2.2.1, x_5.2.2.2.2.2.1, x_5.2.2.2.2.2.2, xt3, xt4, xt5, xt6, xt7, xt8, xt9) hb_13
  intro s_13 o_13 ho_13 hk_13 hx_13
  refine xr_iload_n (n := 34) (j := 1) C dX6_findBest_33 rfl rfl ?_
  refine xr_bipush (n := 36) (v := 31) C dX6_findBest_34 rfl rfl ?_
  refine xr_icmp_gt (tgt := 87) (n := 39) C dX6_findBest_36 rfl rfl (fun c_14 => ?_) (fun c_14 => ?_)
  · replace ho_13 := yf_t c_14 ho_13
    refine xr_lv (lv' := []) [] rfl ?_
    have e_15 := hx_13 _ (Option.some.inj ho_13).symm
    subst e_15
    exact K_13
  · replace ho_13 := yf_f c_14 ho_13
    refine xr_aload_n (n := 40) (j := 0) C dX6_findBest_39 rfl rfl ?_
    refine xr_get (n := 43) C 0 rfl rfl 1 (by decide) in_X6 u_290 rfl (v := .ref xw) rfl dX6_findBest_40 rfl ?_
    refine xr_iload_n (n := 44) (j := 1) C dX6_findBest_43 rfl rfl ?_
    obtain ⟨x_16, hx_16, ho_13⟩ := yf_b ho_13
    refine xr_callVp (n := 47) (As := [.int s_13.1]) (rest := []) C (kX0_knownColumns l D cy (w := xw) (wu := xwu) (wm := xwm) (wb := xwb) (wk := xwk) (i1 := s_13.1) hx_16) mX0_knownColumns u_370 u_371 u_372 6 rfl rfl 9 [6] [0, 1, 2, 3, 4, 5, 7, 8] rfl (by decide +kernel) rfl rfl rfl rfl (Nat.le_of_ble_eq_true rfl) (Nat.le_of_ble_eq_true rfl) (Nat.le_of_ble_eq_true rfl) (Nat.le_of_ble_eq_true rfl) (Nat.le_of_ble_eq_true rfl) dX6_findBest_44 rfl (fun _ _ hp => hp.2) (fun v_17 hp_19 => ?_)
    obtain ⟨rfl, -⟩ := hp_19
    refine xr_st (st' := [.int x_16]) rfl ?_
    refine xr_istore_n (n := 48) C [(2, .int x_16), (0, .ref x), (1, .int s_13.1)] dX6_findBest_47 (by decide) rfl rfl ?_
    refine xr_iconst (n := 49) (v := 1) C dX6_findBest_48 rfl rfl ?_
    refine xr_istore_n (n := 50) C [(3, .int 1), (2, .int x_16), (0, .ref x), (1, .int s_13.1)] dX6_findBest_49 (by decide) rfl rfl ?_
    refine xr_lv (lv' := [(0, .ref x), (1, .int s_13.1), (2, .int x_16), (3, .int 1)]) [2, 3, 1, 0] rfl ?_
    obtain ⟨b_20, hb_20, ho_13⟩ := yf_b ho_13
    have K_20 : X p l e (yR 6 0 0) s m args below meth c D A H0 4 Q [[(x, .inr (8, [.ref xj, .ref xw, .ref xz, .ref xo, .ref xy, .ref xt]))], [(xj, .inr (3, [.ref xja, .ref xjb, .int xjr, .int xjk, .int xjc, .int xjg, .int xjs]))], [(xja, .inr (6, [.ref xjan]))], [(xjan, .inl (cy 1, 81, .inl xjaf))], [(xjb, .inr (6, [.ref xjbn]))], [(xjbn, .inl (cy 1, 81, .inl xjbf))], [(xw, .inr (2, [.ref xwu, .ref xwm, .int xwb, .int xwk]))], [(xy, .inr (4, [.int x_1.1, .int x_1.2.1, .int x_1.2.2, .int b_20.2.1, .int b_20.2.2.1, .int b_20.2.2.2.1, .int b_20.2.2.2.2.1, .int b_20.2.2.2.2.2.1, .int b_20.2.2.2.2.2.2.1, .int b_20.2.2.2.2.2.2.2.1]))], [(xt, .inr (4, [.int x_9.1, .int x_9.2.1, .int x_9.2.2, .int b_20.2.2.2.2.2.2.2.2.1, .int b_20.2.2.2.2.2.2.2.2.2.1, .int b_20.2.2.2.2.2.2.2.2.2.2.1, .int b_20.2.2.2.2.2.2.2.2.2.2.2.1, .int b_20.2.2.2.2.2.2.2.2.2.2.2.2.1, .int b_20.2.2.2.2.2.2.2.2.2.2.2.2.2.1, .int b_20.2.2.2.2.2.2.2.2.2.2.2.2.2.2]))]] 0 0 [(0, .ref x), (1, .int s_13.1)] 81 [] := by
      refine xr_iinc (j := 1) (v := s_13.1 + 1) (n := 84) C [(1, .int (s_13.1 + 1)), (0, .ref x)] dX6_findBest_81 rfl rfl (by decide) rfl rfl ?_
      refine xr_goto (tgt := 33) C dX6_findBest_84 rfl ?_
      refine xr_lv (lv' := [(0, .ref x), (1, .int (s_13.1 + 1))]) [1, 0] rfl ?_
      exact hk_13 (s_13.1 + 1, b_20.2.1, b_20.2.2.1, b_20.2.2.2.1, b_20.2.2.2.2.1, b_20.2.2.2.2.2.1, b_20.2.2.2.2.2.2.1, b_20.2.2.2.2.2.2.2.1, b_20.2.2.2.2.2.2.2.2.1, b_20.2.2.2.2.2.2.2.2.2.1, b_20.2.2.2.2.2.2.2.2.2.2.1, b_20.2.2.2.2.2.2.2.2.2.2.2.1, b_20.2.2.2.2.2.2.2.2.2.2.2.2.1, b_20.2.2.2.2.2.2.2.2.2.2.2.2.2.1, b_20.2.2.2.2.2.2.2.2.2.2.2.2.2.2) (Option.some.inj ho_13).symm
    refine y_loop (P := fun (s_20 : Int32 × Int32 × Int32 × Int32 × Int32 × Int32 × Int32 × Int32 × Int32 × Int32 × Int32 × Int32 × Int32 × Int32 × Int32) => X p l e (yR 6 0 0) s m args below meth c D A H0 4 Q [[(x, .inr (8, [.ref xj, .ref xw, .ref xz, .ref xo, .ref xy, .ref xt]))], [(xj, .inr (3, [.ref xja, .ref xjb, .int xjr, .int xjk, .int xjc, .int xjg, .int xjs]))], [(xja, .inr (6, [.ref xjan]))], [(xjan, .inl (cy 1, 81, .inl xjaf))], [(xjb, .inr (6, [.ref xjbn]))], [(xjbn, .inl (cy 1, 81, .inl xjbf))], [(xw, .inr (2, [.ref xwu, .ref xwm, .int xwb, .int xwk]))], [(xy, .inr (4, [.int x_1.1, .int x_1.2.1, .int x_1.2.2, .int s_20.2.1, .int s_20.2.2.1, .int s_20.2.2.2.1, .int s_20.2.2.2.2.1, .int s_20.2.2.2.2.2.1, .int s_20.2.2.2.2.2.2.1, .int s_20.2.2.2.2.2.2.2.1]))], [(xt, .inr (4, [.int x_9.1, .int x_9.2.1, .int x_9.2.2, .int s_20.2.2.2.2.2.2.2.2.1, .int s_20.2.2.2.2.2.2.2.2.2.1, .int s_20.2.2.2.2.2.2.2.2.2.2.1, .int s_20.2.2.2.2.2.2.2.2.2.2.2.1, .int s_20.2.2.2.2.2.2.2.2.2.2.2.2.1, .int s_20.2.2.2.2.2.2.2.2.2.2.2.2.2.1, .int s_20.2.2.2.2.2.2.2.2.2.2.2.2.2.2]))]] 0 0 [(0, .ref x), (1, .int s_13.1), (2, .int x_16), (3, .int s_20.1)] 50 []) ?_ _ (1, s_13.2.1, s_13.2.2.1, s_13.2.2.2.1, s_13.2.2.2.2.1, s_13.2.2.2.2.2.1, s_13.2.2.2.2.2.2.1, s_13.2.2.2.2.2.2.2.1, s_13.2.2.2.2.2.2.2.2.1, s_13.2.2.2.2.2.2.2.2.2.1, s_13.2.2.2.2.2.2.2.2.2.2.1, s_13.2.2.2.2.2.2.2.2.2.2.2.1, s_13.2.2.2.2.2.2.2.2.2.2.2.2.1, s_13.2.2.2.2.2.2.2.2.2.2.2.2.2.1, s_13.2.2.2.2.2.2.2.2.2.2.2.2.2.2) hb_20
    intro s_20 o_20 ho_20 hk_20 hx_20
    refine xr_iload_n (n := 51) (j := 3) C dX6_findBest_50 rfl rfl ?_
    refine xr_bipush (n := 53) (v := 31) C dX6_findBest_51 rfl rfl ?_
    refine xr_icmp_gt (tgt := 81) (n := 56) C dX6_findBest_53 rfl rfl (fun c_21 => ?_) (fun c_21 => ?_)
    · replace ho_20 := yf_t c_21 ho_20
      refine xr_lv (lv' := [(0, .ref x), (1, .int s_13.1)]) [0, 1] rfl ?_
      have e_22 := hx_20 _ (Option.some.inj ho_20).symm
      subst e_22
      exact K_20
    · replace ho_20 := yf_f c_21 ho_20
      refine xr_iload_n (n := 57) (j := 3) C dX6_findBest_56 rfl rfl ?_
      refine xr_iload_n (n := 58) (j := 2) C dX6_findBest_57 rfl rfl ?_
      refine xr_iand (n := 59) C dX6_findBest_58 rfl ?_
      refine xr_if_ne (tgt := 75) (n := 62) C dX6_findBest_59 rfl rfl (fun c_23 => ?_) (fun c_23 => ?_)
      · replace ho_20 := yf_f c_23 ho_20
        refine xr_iinc (j := 3) (v := s_20.1 + 1) (n := 78) C [(3, .int (s_20.1 + 1)), (0, .ref x), (1, .int s_13.1), (2, .int x_16)] dX6_findBest_75 rfl rfl (by decide) rfl rfl ?_
        refine xr_goto (tgt := 50) C dX6_findBest_78 rfl ?_
        refine xr_lv (lv' := [(0, .ref x), (1, .int s_13.1), (2, .int x_16), (3, .int (s_20.1 + 1))]) [1, 2, 3, 0] rfl ?_
        exact hk_20 (s_20.1 + 1, s_20.2.1, s_20.2.2.1, s_20.2.2.2.1, s_20.2.2.2.2.1, s_20.2.2.2.2.2.1, s_20.2.2.2.2.2.2.1, s_20.2.2.2.2.2.2.2.1, s_20.2.2.2.2.2.2.2.2.1, s_20.2.2.2.2.2.2.2.2.2.1, s_20.2.2.2.2.2.2.2.2.2.2.1, s_20.2.2.2.2.2.2.2.2.2.2.2.1, s_20.2.2.2.2.2.2.2.2.2.2.2.2.1, s_20.2.2.2.2.2.2.2.2.2.2.2.2.2.1, s_20.2.2.2.2.2.2.2.2.2.2.2.2.2.2) (Option.some.inj ho_20).symm
      · replace ho_20 := yf_t c_23 ho_20
        refine xr_aload_n (n := 63) (j := 0) C dX6_findBest_62 rfl rfl ?_
        refine xr_get (n := 66) C 0 rfl rfl 5 (by decide) in_X6 u_294 rfl (v := .ref xt) rfl dX6_findBest_63 rfl ?_
        refine xr_iload_n (n := 67) (j := 1) C dX6_findBest_66 rfl rfl ?_
        refine xr_iload_n (n := 68) (j := 3) C dX6_findBest_67 rfl rfl ?_
        obtain ⟨x_24, hx_24, ho_20⟩ := yf_b ho_20
        refine xr_callV (n := 71) (As := [.int s_13.1, .int s_20.1]) (rest := []) C (kX2_lay l D cy (y := xt) (y0 := x_9.1) (y1 := x_9.2.1) (y2 := x_9.2.2) (y3 := s_20.2.2.2.2.2.2.2.2.1) (y4 := s_20.2.2.2.2.2.2.2.2.2.1) (y5 := s_20.2.2.2.2.2.2.2.2.2.2.1) (y6 := s_20.2.2.2.2.2.2.2.2.2.2.2.1) (y7 := s_20.2.2.2.2.2.2.2.2.2.2.2.2.1) (y8 := s_20.2.2.2.2.2.2.2.2.2.2.2.2.2.1) (y9 := s_20.2.2.2.2.2.2.2.2.2.2.2.2.2.2) (i1 := s_13.1) (i2 := s_20.1) hx_24) mX2_lay u_354 u_355 u_356 8 rfl rfl 9 [8] [0, 1, 2, 3, 4, 5, 6, 7] rfl (by decide +kernel) rfl rfl rfl rfl (Nat.le_of_ble_eq_true rfl) (Nat.le_of_ble_eq_true rfl) (Nat.le_of_ble_eq_true rfl) (Nat.le_of_ble_eq_true rfl) (Nat.le_of_ble_eq_true rfl) dX6_findBest_68 rfl (fun v_25 u_26 hp_27 => ?_)
        obtain ⟨rfl, rfl⟩ := hp_27
        refine xr_perm C 9 [1, 2, 3, 4, 5, 6, 7, 8, 0] [] [[(x, .inr (8, [.ref xj, .ref xw, .ref xz, .ref xo, .ref xy, .ref xt]))], [(xj, .inr (3, [.ref xja, .ref xjb, .int xjr, .int xjk, .int xjc, .int xjg, .int xjs]))], [(xja, .inr (6, [.ref xjan]))], [(xjan, .inl (cy 1, 81, .inl xjaf))], [(xjb, .inr (6, [.ref xjbn]))], [(xjbn, .inl (cy 1, 81, .inl xjbf))], [(xw, .inr (2, [.ref xwu, .ref xwm, .int xwb, .int xwk]))], [(xy, .inr (4, [.int x_1.1, .int x_1.2.1, .int x_1.2.2, .int s_20.2.1, .int s_20.2.2.1, .int s_20.2.2.2.1, .int s_20.2.2.2.2.1, .int s_20.2.2.2.2.2.1, .int s_20.2.2.2.2.2.2.1, .int s_20.2.2.2.2.2.2.2.1]))], [(xt, .inr (4, [.int x_9.1, .int x_9.2.1, .int x_9.2.2, .int x_24.1, .int x_24.2.1, .int x_24.2.2.1, .int x_24.2.2.2.1, .int x_24.2.2.2.2.1, .int x_24.2.2.2.2.2.1, .int x_24.2.2.2.2.2.2]))]] rfl (by decide +kernel) rfl ?_
        refine xr_aload_n (n := 72) (j := 0) C dX6_findBest_71 rfl rfl ?_
        obtain ⟨x_28, hx_28, ho_20⟩ := yf_b ho_20
        refine xr_callV (n := 75) (As := []) (rest := []) C (kX6_keepIfBetter l D cy (x := x) (xj := xj) (xw := xw) (xz := xz) (xo := xo) (xy := xy) (xt := xt) (xy0 := x_1.1) (xy1 := x_1.2.1) (xy2 := x_1.2.2) (xy3 := s_20.2.1) (xy4 := s_20.2.2.1) (xy5 := s_20.2.2.2.1) (xy6 := s_20.2.2.2.2.1) (xy7 := s_20.2.2.2.2.2.1) (xy8 := s_20.2.2.2.2.2.2.1) (xy9 := s_20.2.2.2.2.2.2.2.1) (xt0 := x_9.1) (xt1 := x_9.2.1) (xt2 := x_9.2.2) (xt3 := x_24.1) (xt4 := x_24.2.1) (xt5 := x_24.2.2.1) (xt6 := x_24.2.2.2.1) (xt7 := x_24.2.2.2.2.1) (xt8 := x_24.2.2.2.2.2.1) (xt9 := x_24.2.2.2.2.2.2) hx_28) mX6_keepIfBetter u_374 u_376 u_4 0 rfl rfl 9 [0, 7, 8] [1, 2, 3, 4, 5, 6] rfl (by decide +kernel) rfl rfl rfl rfl (Nat.le_of_ble_eq_true rfl) (Nat.le_of_ble_eq_true rfl) (Nat.le_of_ble_eq_true rfl) (Nat.le_of_ble_eq_true rfl) (Nat.le_of_ble_eq_true rfl) dX6_findBest_72 rfl (fun v_29 u_30 hp_31 => ?_)
        obtain ⟨rfl, rfl⟩ := hp_31
        refine xr_perm C 9 [0, 3, 4, 5, 6, 7, 8, 1, 2] [] [[(x, .inr (8, [.ref xj, .ref xw, .ref xz, .ref xo, .ref xy, .ref xt]))], [(xj, .inr (3, [.ref xja, .ref xjb, .int xjr, .int xjk, .int xjc, .int xjg, .int xjs]))], [(xja, .inr (6, [.ref xjan]))], [(xjan, .inl (cy 1, 81, .inl xjaf))], [(xjb, .inr (6, [.ref xjbn]))], [(xjbn, .inl (cy 1, 81, .inl xjbf))], [(xw, .inr (2, [.ref xwu, .ref xwm, .int xwb, .int xwk]))], [(xy, .inr (4, [.int x_1.1, .int x_1.2.1, .int x_1.2.2, .int x_28.1, .int x_28.2.1, .int x_28.2.2.1, .int x_28.2.2.2.1, .int x_28.2.2.2.2.1, .int x_28.2.2.2.2.2.1, .int x_28.2.2.2.2.2.2]))], [(xt, .inr (4, [.int x_9.1, .int x_9.2.1, .int x_9.2.2, .int x_24.1, .int x_24.2.1, .int x_24.2.2.1, .int x_24.2.2.2.1, .int x_24.2.2.2.2.1, .int x_24.2.2.2.2.2.1, .int x_24.2.2.2.2.2.2]))]] rfl (by decide +kernel) rfl ?_
        refine xr_iinc (j := 3) (v := s_20.1 + 1) (n := 78) C [(3, .int (s_20.1 + 1)), (0, .ref x), (1, .int s_13.1), (2, .int x_16)] dX6_findBest_75 rfl rfl (by decide) rfl rfl ?_
        refine xr_goto (tgt := 50) C dX6_findBest_78 rfl ?_
        refine xr_lv (lv' := [(0, .ref x), (1, .int s_13.1), (2, .int x_16), (3, .int (s_20.1 + 1))]) [1, 2, 3, 0] rfl ?_
        exact hk_20 (s_20.1 + 1, x_28.1, x_28.2.1, x_28.2.2.1, x_28.2.2.2.1, x_28.2.2.2.2.1, x_28.2.2.2.2.2.1, x_28.2.2.2.2.2.2, x_24.1, x_24.2.1, x_24.2.2.1, x_24.2.2.2.1, x_24.2.2.2.2.1, x_24.2.2.2.2.2.1, x_24.2.2.2.2.2.2) (Option.some.inj ho_20).symm
theorem dX6_start_0 : decode cX6_start 0 = .ok (.aload_n 0, 1) := by decide +kernel
theorem dX6_start_1 : decode cX6_start 1 = .ok (.getfield 33, 3) := by decide +kernel
theorem dX6_start_4 : decode cX6_start 4 = .ok (.invokevirtual 134, 3) := by decide +kernel
theorem dX6_start_7 : decode cX6_start 7 = .ok (.ifCond .eq 13, 3) := by decide +kernel
theorem dX6_start_10 : decode cX6_start 10 = .ok (.new 110, 3) := by decide +kernel
theorem dX6_start_13 : decode cX6_start 13 = .ok (.dup, 1) := by decide +kernel
theorem dX6_start_14 : decode cX6_start 14 = .ok (.ldc 138, 2) := by decide +kernel
theorem dX6_start_16 : decode cX6_start 16 = .ok (.invokespecial 114, 3) := by decide +kernel
theorem dX6_start_19 : decode cX6_start 19 = .ok (.athrow, 1) := by decide +kernel
theorem dX6_start_20 : decode cX6_start 20 = .ok (.aload_n 0, 1) := by decide +kernel
theorem dX6_start_21 : decode cX6_start 21 = .ok (.invokevirtual 143, 3) := by decide +kernel
theorem dX6_start_24 : decode cX6_start 24 = .ok (.aload_n 0, 1) := by decide +kernel
theorem dX6_start_25 : decode cX6_start 25 = .ok (.getfield 40, 3) := by decide +kernel
theorem dX6_start_28 : decode cX6_start 28 = .ok (.invokevirtual 146, 3) := by decide +kernel
theorem dX6_start_31 : decode cX6_start 31 = .ok (.ifCond .eq 13, 3) := by decide +kernel
theorem dX6_start_34 : decode cX6_start 34 = .ok (.new 110, 3) := by decide +kernel
theorem dX6_start_37 : decode cX6_start 37 = .ok (.dup, 1) := by decide +kernel
theorem dX6_start_38 : decode cX6_start 38 = .ok (.ldc 149, 2) := by decide +kernel
theorem dX6_start_40 : decode cX6_start 40 = .ok (.invokespecial 114, 3) := by decide +kernel
theorem dX6_start_43 : decode cX6_start 43 = .ok (.athrow, 1) := by decide +kernel
theorem dX6_start_44 : decode cX6_start 44 = .ok (.aload_n 0, 1) := by decide +kernel
theorem dX6_start_45 : decode cX6_start 45 = .ok (.getfield 33, 3) := by decide +kernel
theorem dX6_start_48 : decode cX6_start 48 = .ok (.aload_n 0, 1) := by decide +kernel
theorem dX6_start_49 : decode cX6_start 49 = .ok (.getfield 10, 3) := by decide +kernel
theorem dX6_start_52 : decode cX6_start 52 = .ok (.aload_n 0, 1) := by decide +kernel
theorem dX6_start_53 : decode cX6_start 53 = .ok (.getfield 40, 3) := by decide +kernel
theorem dX6_start_56 : decode cX6_start 56 = .ok (.aload_n 0, 1) := by decide +kernel
theorem dX6_start_57 : decode cX6_start 57 = .ok (.getfield 19, 3) := by decide +kernel
theorem dX6_start_60 : decode cX6_start 60 = .ok (.invokevirtual 151, 3) := by decide +kernel
theorem dX6_start_63 : decode cX6_start 63 = .ok (.aload_n 0, 1) := by decide +kernel
theorem dX6_start_64 : decode cX6_start 64 = .ok (.getfield 26, 3) := by decide +kernel
theorem dX6_start_67 : decode cX6_start 67 = .ok (.invokevirtual 155, 3) := by decide +kernel
theorem dX6_start_70 : decode cX6_start 70 = .ok (.aload_n 0, 1) := by decide +kernel
theorem dX6_start_71 : decode cX6_start 71 = .ok (.getfield 33, 3) := by decide +kernel
theorem dX6_start_74 : decode cX6_start 74 = .ok (.getfield 158, 3) := by decide +kernel
theorem dX6_start_77 : decode cX6_start 77 = .ok (.ireturn, 1) := by decide +kernel
def fX6_start (xjr : Int32) (xjk : Int32) (xjc : Int32) (xjg : Int32) (xjs : Int32) (xjaf : Nat → Int32) (xjbf : Nat → Int32) (xwk : Int32) (xwmf : Nat → Int32) (xobl : Int32) (xose : Int32) (xojaf : Nat → Int32) (xojbf : Nat → Int32) (xy0 : Int32) (xy1 : Int32) (xy2 : Int32) (xy3 : Int32) (xy4 : Int32) (xy5 : Int32) (xy6 : Int32) (xy7 : Int32) (xy8 : Int32) (xy9 : Int32) (xt0 : Int32) (xt1 : Int32) (xt2 : Int32) (xt3 : Int32) (xt4 : Int32) (xt5 : Int32) (xt6 : Int32) (xt7 : Int32) (xt8 : Int32) (xt9 : Int32) : Option ((Nat × Int32 × Int32 × Int32 × Int32 × Int32 × Int32 × Int32 × Int32 × Int32 × Int32 × Int32 × Int32 × Int32 × Int32 × Int32 × Int32 × Int32 × Int32 × Int32 × Int32) ⊕ (Int32 × (Nat → Int32) × Int32 × Int32 × Int32 × Int32 × Int32 × Int32 × Int32 × Int32 × Int32 × Int32 × Int32 × Int32 × Int32 × Int32 × Int32 × (Nat → Int32) × (Nat → Int32) × Int32 × Int32 × Int32 × Int32 × Int32 × Int32 × Int32 × Int32 × Int32 × Int32 × Int32 × Int32 × Int32 × Int32 × Int32 × Int32 × Int32 × Int32 × Int32 × Int32 × Int32 × Int32 × Int32 × Int32 × Int32 × Int32 × Int32 × Int32 × Int32 × Int32)) := ((fX5_runs xobl).bind fun x_1 => (if x_1 = 0 then ((fX6_findBest xjr xjk xjc xjg xjs xjaf xjbf xwk xt3 xt4 xt5 xt6 xt7 xt8 xt9).bind fun x_6 => ((fX2_isEmpty x_6.2.2.2.1 x_6.2.2.2.2.1).bind fun x_10 => (if x_10 = 0 then ((fX5_begin xose xojaf xojbf xjr xjk xjc xjg xjs xjaf xjbf x_6.1 x_6.2.1 x_6.2.2.1 x_6.2.2.2.1 x_6.2.2.2.2.1 xwmf).bind fun x_15 => ((fX3_clear).bind fun x_19 => some (.inr (x_15.2.2.2.2.2.1, x_15.2.2.2.2.2.2.2.2.2.2.2.2.2.2.2.2.2.2.2.2.2.2.2.2, x_19.1, x_19.2.1, x_19.2.2, x_15.1, x_15.2.1, x_15.2.2.1, x_15.2.2.2.1, x_15.2.2.2.2.1, x_15.2.2.2.2.2.1, x_15.2.2.2.2.2.2.1, x_15.2.2.2.2.2.2.2.1, x_15.2.2.2.2.2.2.2.2.1, x_15.2.2.2.2.2.2.2.2.2.1, x_15.2.2.2.2.2.2.2.2.2.2.1, x_15.2.2.2.2.2.2.2.2.2.2.2.1, x_15.2.2.2.2.2.2.2.2.2.2.2.2.1, x_15.2.2.2.2.2.2.2.2.2.2.2.2.2.1, x_15.2.2.2.2.2.2.2.2.2.2.2.2.2.2.1, x_15.2.2.2.2.2.2.2.2.2.2.2.2.2.2.2.1, x_15.2.2.2.2.2.2.2.2.2.2.2.2.2.2.2.2.1, x_15.2.2.2.2.2.2.2.2.2.2.2.2.2.2.2.2.2.1, x_15.2.2.2.2.2.2.2.2.2.2.2.2.2.2.2.2.2.2.1, x_15.2.2.2.2.2.2.2.2.2.2.2.2.2.2.2.2.2.2.2.1, x_15.2.2.2.2.2.2.2.2.2.2.2.2.2.2.2.2.2.2.2.2.1, x_15.2.2.2.2.2.2.2.2.2.2.2.2.2.2.2.2.2.2.2.2.2.1, x_15.2.2.2.2.2.2.2.2.2.2.2.2.2.2.2.2.2.2.2.2.2.2.1, x_15.2.2.2.2.2.2.2.2.2.2.2.2.2.2.2.2.2.2.2.2.2.2.2.1, x_6.1, x_6.2.1, x_6.2.2.1, x_6.2.2.2.1, x_6.2.2.2.2.1, x_6.2.2.2.2.2.1, x_6.2.2.2.2.2.2.1, x_6.2.2.2.2.2.2.2.1, x_6.2.2.2.2.2.2.2.2.1, x_6.2.2.2.2.2.2.2.2.2.1, x_6.2.2.2.2.2.2.2.2.2.2.1, x_6.2.2.2.2.2.2.2.2.2.2.2.1, x_6.2.2.2.2.2.2.2.2.2.2.2.2.1, x_6.2.2.2.2.2.2.2.2.2.2.2.2.2.1, x_6.2.2.2.2.2.2.2.2.2.2.2.2.2.2.1, x_6.2.2.2.2.2.2.2.2.2.2.2.2.2.2.2.1, x_6.2.2.2.2.2.2.2.2.2.2.2.2.2.2.2.2.1, x_6.2.2.2.2.2.2.2.2.2.2.2.2.2.2.2.2.2.1, x_6.2.2.2.2.2.2.2.2.2.2.2.2.2.2.2.2.2.2.1, x_6.2.2.2.2.2.2.2.2.2.2.2.2.2.2.2.2.2.2.2)))) else some (.inl (2, x_6.1, x_6.2.1, x_6.2.2.1, x_6.2.2.2.1, x_6.2.2.2.2.1, x_6.2.2.2.2.2.1, x_6.2.2.2.2.2.2.1, x_6.2.2.2.2.2.2.2.1, x_6.2.2.2.2.2.2.2.2.1, x_6.2.2.2.2.2.2.2.2.2.1, x_6.2.2.2.2.2.2.2.2.2.2.1, x_6.2.2.2.2.2.2.2.2.2.2.2.1, x_6.2.2.2.2.2.2.2.2.2.2.2.2.1, x_6.2.2.2.2.2.2.2.2.2.2.2.2.2.1, x_6.2.2.2.2.2.2.2.2.2.2.2.2.2.2.1, x_6.2.2.2.2.2.2.2.2.2.2.2.2.2.2.2.1, x_6.2.2.2.2.2.2.2.2.2.2.2.2.2.2.2.2.1, x_6.2.2.2.2.2.2.2.2.2.2.2.2.2.2.2.2.2.1, x_6.2.2.2.2.2.2.2.2.2.2.2.2.2.2.2.2.2.2.1, x_6.2.2.2.2.2.2.2.2.2.2.2.2.2.2.2.2.2.2.2))))) else some (.inl (2, xy0, xy1, xy2, xy3, xy4, xy5, xy6, xy7, xy8, xy9, xt0, xt1, xt2, xt3, xt4, xt5, xt6, xt7, xt8, xt9))))
abbrev hX6_start : Cond := .code yX6_start cX6_start 1 (some .int)
theorem mX6_start : yM yX6_start hX6_start 0 := ⟨u_757, u_57, by decide +kernel, by decide +kernel, by decide +kernel⟩
set_option maxHeartbeats 4000000 in
set_option maxRecDepth 100000 in
theorem kX6_start (l : Launch) (D : va_G) (cy : Nat → ClassId) (hl0 : l.stackTraces = false) (x : Nat) (xj : Nat) (xw : Nat) (xz : Nat) (xo : Nat) (xy : Nat) (xt : Nat) (xja : Nat) (xjb : Nat) (xjr : Int32) (xjk : Int32) (xjc : Int32) (xjg : Int32) (xjs : Int32) (xjan : Nat) (xjaf : Nat → Int32) (xjbn : Nat) (xjbf : Nat → Int32) (xwu : Nat) (xwm : Nat) (xwb : Int32) (xwk : Int32) (xwmn : Nat) (xwmf : Nat → Int32) (xzv : Nat) (xzr : Int32) (xzc : Int32) (xzs : Int32) (xoj : Nat) (xoy : Nat) (xosk : Int32) (xoti : Int32) (xofr : Int32) (xofc : Int32) (xobt : Int32) (xobl : Int32) (xobe : Int32) (xose : Int32) (xotk : Int32) (xoja : Nat) (xojb : Nat) (xojr : Int32) (xojk : Int32) (xojc : Int32) (xojg : Int32) (xojs : Int32) (xojan : Nat) (xojaf : Nat → Int32) (xojbn : Nat) (xojbf : Nat → Int32) (xoy0 : Int32) (xoy1 : Int32) (xoy2 : Int32) (xoy3 : Int32) (xoy4 : Int32) (xoy5 : Int32) (xoy6 : Int32) (xoy7 : Int32) (xoy8 : Int32) (xoy9 : Int32) (xy0 : Int32) (xy1 : Int32) (xy2 : Int32) (xy3 : Int32) (xy4 : Int32) (xy5 : Int32) (xy6 : Int32) (xy7 : Int32) (xy8 : Int32) (xy9 : Int32) (xt0 : Int32) (xt1 : Int32) (xt2 : Int32) (xt3 : Int32) (xt4 : Int32) (xt5 : Int32) (xt6 : Int32) (xt7 : Int32) (xt8 : Int32) (xt9 : Int32) {res : (Nat × Int32 × Int32 × Int32 × Int32 × Int32 × Int32 × Int32 × Int32 × Int32 × Int32 × Int32 × Int32 × Int32 × Int32 × Int32 × Int32 × Int32 × Int32 × Int32 × Int32) ⊕ (Int32 × (Nat → Int32) × Int32 × Int32 × Int32 × Int32 × Int32 × Int32 × Int32 × Int32 × Int32 × Int32 × Int32 × Int32 × Int32 × Int32 × Int32 × (Nat → Int32) × (Nat → Int32) × Int32 × Int32 × Int32 × Int32 × Int32 × Int32 × Int32 × Int32 × Int32 × Int32 × Int32 × Int32 × Int32 × Int32 × Int32 × Int32 × Int32 × Int32 × Int32 × Int32 × Int32 × Int32 × Int32 × Int32 × Int32 × Int32 × Int32 × Int32 × Int32 × Int32)} (hR : fX6_start xjr xjk xjc xjg xjs xjaf xjbf xwk xwmf xobl xose xojaf xojbf xy0 xy1 xy2 xy3 xy4 xy5 xy6 xy7 xy8 xy9 xt0 xt1 xt2 xt3 xt4 xt5 xt6 xt7 xt8 xt9 = some res) : YX l D cy yX6_start hX6_start 7 1 6 [.ref x] [[(x, .inr (8, [.ref xj, .ref xw, .ref xz, .ref xo, .ref xy, .ref xt]))], [(xj, .inr (3, [.ref xja, .ref xjb, .int xjr, .int xjk, .int xjc, .int xjg, .int xjs]))], [(xja, .inr (6, [.ref xjan]))], [(xjan, .inl (cy 1, 81, .inl xjaf))], [(xjb, .inr (6, [.ref xjbn]))], [(xjbn, .inl (cy 1, 81, .inl xjbf))], [(xw, .inr (2, [.ref xwu, .ref xwm, .int xwb, .int xwk]))], [(xwm, .inr (6, [.ref xwmn]))], [(xwmn, .inl (cy 1, 81, .inl xwmf))], [(xz, .inr (5, [.ref xzv, .int xzr, .int xzc, .int xzs]))], [(xo, .inr (7, [.ref xoj, .ref xoy, .int xosk, .int xoti, .int xofr, .int xofc, .int xobt, .int xobl, .int xobe, .int xose, .int xotk]))], [(xoj, .inr (3, [.ref xoja, .ref xojb, .int xojr, .int xojk, .int xojc, .int xojg, .int xojs]))], [(xoja, .inr (6, [.ref xojan]))], [(xojan, .inl (cy 1, 81, .inl xojaf))], [(xojb, .inr (6, [.ref xojbn]))], [(xojbn, .inl (cy 1, 81, .inl xojbf))], [(xoy, .inr (4, [.int xoy0, .int xoy1, .int xoy2, .int xoy3, .int xoy4, .int xoy5, .int xoy6, .int xoy7, .int xoy8, .int xoy9]))], [(xy, .inr (4, [.int xy0, .int xy1, .int xy2, .int xy3, .int xy4, .int xy5, .int xy6, .int xy7, .int xy8, .int xy9]))], [(xt, .inr (4, [.int xt0, .int xt1, .int xt2, .int xt3, .int xt4, .int xt5, .int xt6, .int xt7, .int xt8, .int xt9]))]] (fun v u => ∃ r, res = .inr r ∧ v = some (.int r.1) ∧ u = [[(x, .inr (8, [.ref xj, .ref xw, .ref xz, .ref xo, .ref xy, .ref xt]))], [(xj, .inr (3, [.ref xja, .ref xjb, .int xjr, .int xjk, .int xjc, .int xjg, .int xjs]))], [(xja, .inr (6, [.ref xjan]))], [(xjan, .inl (cy 1, 81, .inl xjaf))], [(xjb, .inr (6, [.ref xjbn]))], [(xjbn, .inl (cy 1, 81, .inl xjbf))], [(xw, .inr (2, [.ref xwu, .ref xwm, .int xwb, .int xwk]))], [(xwm, .inr (6, [.ref xwmn]))], [(xwmn, .inl (cy 1, 81, .inl r.2.1))], [(xz, .inr (5, [.ref xzv, .int r.2.2.1, .int r.2.2.2.1, .int r.2.2.2.2.1]))], [(xo, .inr (7, [.ref xoj, .ref xoy, .int r.2.2.2.2.2.1, .int r.2.2.2.2.2.2.1, .int r.2.2.2.2.2.2.2.1, .int r.2.2.2.2.2.2.2.2.1, .int r.2.2.2.2.2.2.2.2.2.1, .int r.2.2.2.2.2.2.2.2.2.2.1, .int xobe, .int r.2.2.2.2.2.2.2.2.2.2.2.1, .int xotk]))], [(xoj, .inr (3, [.ref xoja, .ref xojb, .int r.2.2.2.2.2.2.2.2.2.2.2.2.1, .int r.2.2.2.2.2.2.2.2.2.2.2.2.2.1, .int r.2.2.2.2.2.2.2.2.2.2.2.2.2.2.1, .int r.2.2.2.2.2.2.2.2.2.2.2.2.2.2.2.1, .int r.2.2.2.2.2.2.2.2.2.2.2.2.2.2.2.2.1]))], [(xoja, .inr (6, [.ref xojan]))], [(xojan, .inl (cy 1, 81, .inl r.2.2.2.2.2.2.2.2.2.2.2.2.2.2.2.2.2.1))], [(xojb, .inr (6, [.ref xojbn]))], [(xojbn, .inl (cy 1, 81, .inl r.2.2.2.2.2.2.2.2.2.2.2.2.2.2.2.2.2.2.1))], [(xoy, .inr (4, [.int r.2.2.2.2.2.2.2.2.2.2.2.2.2.2.2.2.2.2.2.1, .int r.2.2.2.2.2.2.2.2.2.2.2.2.2.2.2.2.2.2.2.2.1, .int r.2.2.2.2.2.2.2.2.2.2.2.2.2.2.2.2.2.2.2.2.2.1, .int r.2.2.2.2.2.2.2.2.2.2.2.2.2.2.2.2.2.2.2.2.2.2.1, .int r.2.2.2.2.2.2.2.2.2.2.2.2.2.2.2.2.2.2.2.2.2.2.2.1, .int r.2.2.2.2.2.2.2.2.2.2.2.2.2.2.2.2.2.2.2.2.2.2.2.2.1, .int r.2.2.2.2.2.2.2.2.2.2.2.2.2.2.2.2.2.2.2.2.2.2.2.2.2.1, .int r.2.2.2.2.2.2.2.2.2.2.2.2.2.2.2.2.2.2.2.2.2.2.2.2.2.2.1, .int r.2.2.2.2.2.2.2.2.2.2.2.2.2.2.2.2.2.2.2.2.2.2.2.2.2.2.2.1, .int r.2.2.2.2.2.2.2.2.2.2.2.2.2.2.2.2.2.2.2.2.2.2.2.2.2.2.2.2.1]))], [(xy, .inr (4, [.int r.2.2.2.2.2.2.2.2.2.2.2.2.2.2.2.2.2.2.2.2.2.2.2.2.2.2.2.2.2.1, .int r.2.2.2.2.2.2.2.2.2.2.2.2.2.2.2.2.2.2.2.2.2.2.2.2.2.2.2.2.2.2.1, .int r.2.2.2.2.2.2.2.2.2.2.2.2.2.2.2.2.2.2.2.2.2.2.2.2.2.2.2.2.2.2.2.1, .int r.2.2.2.2.2.2.2.2.2.2.2.2.2.2.2.2.2.2.2.2.2.2.2.2.2.2.2.2.2.2.2.2.1, .int r.2.2.2.2.2.2.2.2.2.2.2.2.2.2.2.2.2.2.2.2.2.2.2.2.2.2.2.2.2.2.2.2.2.1, .int r.2.2.2.2.2.2.2.2.2.2.2.2.2.2.2.2.2.2.2.2.2.2.2.2.2.2.2.2.2.2.2.2.2.2.1, .int r.2.2.2.2.2.2.2.2.2.2.2.2.2.2.2.2.2.2.2.2.2.2.2.2.2.2.2.2.2.2.2.2.2.2.2.1, .int r.2.2.2.2.2.2.2.2.2.2.2.2.2.2.2.2.2.2.2.2.2.2.2.2.2.2.2.2.2.2.2.2.2.2.2.2.1, .int r.2.2.2.2.2.2.2.2.2.2.2.2.2.2.2.2.2.2.2.2.2.2.2.2.2.2.2.2.2.2.2.2.2.2.2.2.2.1, .int r.2.2.2.2.2.2.2.2.2.2.2.2.2.2.2.2.2.2.2.2.2.2.2.2.2.2.2.2.2.2.2.2.2.2.2.2.2.2.1]))], [(xt, .inr (4, [.int r.2.2.2.2.2.2.2.2.2.2.2.2.2.2.2.2.2.2.2.2.2.2.2.2.2.2.2.2.2.2.2.2.2.2.2.2.2.2.2.1, .int r.2.2.2.2.2.2.2.2.2.2.2.2.2.2.2.2.2.2.2.2.2.2.2.2.2.2.2.2.2.2.2.2.2.2.2.2.2.2.2.2.1, .int r.2.2.2.2.2.2.2.2.2.2.2.2.2.2.2.2.2.2.2.2.2.2.2.2.2.2.2.2.2.2.2.2.2.2.2.2.2.2.2.2.2.1, .int r.2.2.2.2.2.2.2.2.2.2.2.2.2.2.2.2.2.2.2.2.2.2.2.2.2.2.2.2.2.2.2.2.2.2.2.2.2.2.2.2.2.2.1, .int r.2.2.2.2.2.2.2.2.2.2.2.2.2.2.2.2.2.2.2.2.2.2.2.2.2.2.2.2.2.2.2.2.2.2.2.2.2.2.2.2.2.2.2.1, .int r.2.2.2.2.2.2.2.2.2.2.2.2.2.2.2.2.2.2.2.2.2.2.2.2.2.2.2.2.2.2.2.2.2.2.2.2.2.2.2.2.2.2.2.2.1, .int r.2.2.2.2.2.2.2.2.2.2.2.2.2.2.2.2.2.2.2.2.2.2.2.2.2.2.2.2.2.2.2.2.2.2.2.2.2.2.2.2.2.2.2.2.2.1, .int r.2.2.2.2.2.2.2.2.2.2.2.2.2.2.2.2.2.2.2.2.2.2.2.2.2.2.2.2.2.2.2.2.2.2.2.2.2.2.2.2.2.2.2.2.2.2.1, .int r.2.2.2.2.2.2.2.2.2.2.2.2.2.2.2.2.2.2.2.2.2.2.2.2.2.2.2.2.2.2.2.2.2.2.2.2.2.2.2.2.2.2.2.2.2.2.2.1, .int r.2.2.2.2.2.2.2.2.2.2.2.2.2.2.2.2.2.2.2.2.2.2.2.2.2.2.2.2.2.2.2.2.2.2.2.2.2.2.2.2.2.2.2.2.2.2.2.2]))]]) (fun E u => ∃ r, res = .inl r ∧ E = yE r.1 ∧ u = [[(x, .inr (8, [.ref xj, .ref xw, .ref xz, .ref xo, .ref xy, .ref xt]))], [(xj, .inr (3, [.ref xja, .ref xjb, .int xjr, .int xjk, .int xjc, .int xjg, .int xjs]))], [(xja, .inr (6, [.ref xjan]))], [(xjan, .inl (cy 1, 81, .inl xjaf))], [(xjb, .inr (6, [.ref xjbn]))], [(xjbn, .inl (cy 1, 81, .inl xjbf))], [(xw, .inr (2, [.ref xwu, .ref xwm, .int xwb, .int xwk]))], [(xwm, .inr (6, [.ref xwmn]))], [(xwmn, .inl (cy 1, 81, .inl xwmf))], [(xz, .inr (5, [.ref xzv, .int xzr, .int xzc, .int xzs]))], [(xo, .inr (7, [.ref xoj, .ref xoy, .int xosk, .int xoti, .int xofr, .int xofc, .int xobt, .int xobl, .int xobe, .int xose, .int xotk]))], [(xoj, .inr (3, [.ref xoja, .ref xojb, .int xojr, .int xojk, .int xojc, .int xojg, .int xojs]))], [(xoja, .inr (6, [.ref xojan]))], [(xojan, .inl (cy 1, 81, .inl xojaf))], [(xojb, .inr (6, [.ref xojbn]))], [(xojbn, .inl (cy 1, 81, .inl xojbf))], [(xoy, .inr (4, [.int xoy0, .int xoy1, .int xoy2, .int xoy3, .int xoy4, .int xoy5, .int xoy6, .int xoy7, .int xoy8, .int xoy9]))], [(xy, .inr (4, [.int r.2.1, .int r.2.2.1, .int r.2.2.2.1, .int r.2.2.2.2.1, .int r.2.2.2.2.2.1, .int r.2.2.2.2.2.2.1, .int r.2.2.2.2.2.2.2.1, .int r.2.2.2.2.2.2.2.2.1, .int r.2.2.2.2.2.2.2.2.2.1, .int r.2.2.2.2.2.2.2.2.2.2.1]))], [(xt, .inr (4, [.int r.2.2.2.2.2.2.2.2.2.2.2.1, .int r.2.2.2.2.2.2.2.2.2.2.2.2.1, .int r.2.2.2.2.2.2.2.2.2.2.2.2.2.1, .int r.2.2.2.2.2.2.2.2.2.2.2.2.2.2.1, .int r.2.2.2.2.2.2.2.2.2.2.2.2.2.2.2.1, .int r.2.2.2.2.2.2.2.2.2.2.2.2.2.2.2.2.1, .int r.2.2.2.2.2.2.2.2.2.2.2.2.2.2.2.2.2.1, .int r.2.2.2.2.2.2.2.2.2.2.2.2.2.2.2.2.2.2.1, .int r.2.2.2.2.2.2.2.2.2.2.2.2.2.2.2.2.2.2.2.1, .int r.2.2.2.2.2.2.2.2.2.2.2.2.2.2.2.2.2.2.2.2]))]]) := by
  unfold fX6_start at hR
  refine YX.ofI (cc := cX6_start) (maxL := 1) (ret := (some .int)) hl0 (by decide +kernel) rfl (Nat.le_of_ble_eq_true rfl) [(0, .ref x)] rfl rfl (fun p e s m args below meth c A H0 Q C ret thr => ?_)
  refine xr_aload_n (n := 1) (j := 0) C dX6_start_0 rfl rfl ?_
  refine xr_get (n := 4) C 0 rfl rfl 3 (by decide) in_X6 u_292 rfl (v := .ref xo) rfl dX6_start_1 rfl ?_
  obtain ⟨x_1, hx_1, hR⟩ := yf_b hR
  refine xr_callVp (n := 7) (As := []) (rest := []) C (kX5_runs l D cy (o := xo) (oj := xoj) (oy := xoy) (osk := xosk) (oti := xoti) (ofr := xofr) (ofc := xofc) (obt := xobt) (obl := xobl) (obe := xobe) (ose := xose) (otk := xotk) hx_1) mX5_runs u_468 u_430 u_431 10 rfl rfl 19 [10] [0, 1, 2, 3, 4, 5, 6, 7, 8, 9, 11, 12, 13, 14, 15, 16, 17, 18] rfl (by decide +kernel) rfl rfl rfl rfl (Nat.le_of_ble_eq_true rfl) (Nat.le_of_ble_eq_true rfl) (Nat.le_of_ble_eq_true rfl) (Nat.le_of_ble_eq_true rfl) (Nat.le_of_ble_eq_true rfl) dX6_start_4 rfl (fun _ _ hp => hp.2) (fun v_2 hp_4 => ?_)
  obtain ⟨rfl, -⟩ := hp_4
  refine xr_st (st' := [.int x_1]) rfl ?_
  refine xr_if_eq (tgt := 20) (n := 10) C dX6_start_7 rfl rfl (fun c_5 => ?_) (fun c_5 => ?_)
  · replace hR := yf_t c_5 hR
    refine xr_aload_n (n := 21) (j := 0) C dX6_start_20 rfl rfl ?_
    obtain ⟨x_6, hx_6, hR⟩ := yf_b hR
    refine xr_callV (n := 24) (As := []) (rest := []) C (kX6_findBest l D cy (x := x) (xj := xj) (xw := xw) (xz := xz) (xo := xo) (xy := xy) (xt := xt) (xja := xja) (xjb := xjb) (xjr := xjr) (xjk := xjk) (xjc := xjc) (xjg := xjg) (xjs := xjs) (xjan := xjan) (xjaf := xjaf) (xjbn := xjbn) (xjbf := xjbf) (xwu := xwu) (xwm := xwm) (xwb := xwb) (xwk := xwk) (xy0 := xy0) (xy1 := xy1) (xy2 := xy2) (xy3 := xy3) (xy4 := xy4) (xy5 := xy5) (xy6 := xy6) (xy7 := xy7) (xy8 := xy8) (xy9 := xy9) (xt0 := xt0) (xt1 := xt1) (xt2 := xt2) (xt3 := xt3) (xt4 := xt4) (xt5 := xt5) (xt6 := xt6) (xt7 := xt7) (xt8 := xt8) (xt9 := xt9) hx_6) mX6_findBest u_312 u_314 u_0 0 rfl rfl 19 [0, 1, 2, 3, 4, 5, 6, 17, 18] [7, 8, 9, 10, 11, 12, 13, 14, 15, 16] rfl (by decide +kernel) rfl rfl rfl rfl (Nat.le_of_ble_eq_true rfl) (Nat.le_of_ble_eq_true rfl) (Nat.le_of_ble_eq_true rfl) (Nat.le_of_ble_eq_true rfl) (Nat.le_of_ble_eq_true rfl) dX6_start_21 rfl (fun v_7 u_8 hp_9 => ?_)
    obtain ⟨rfl, rfl⟩ := hp_9
    refine xr_perm C 19 [0, 1, 2, 3, 4, 5, 6, 9, 10, 11, 12, 13, 14, 15, 16, 17, 18, 7, 8] [] [[(x, .inr (8, [.ref xj, .ref xw, .ref xz, .ref xo, .ref xy, .ref xt]))], [(xj, .inr (3, [.ref xja, .ref xjb, .int xjr, .int xjk, .int xjc, .int xjg, .int xjs]))], [(xja, .inr (6, [.ref xjan]))], [(xjan, .inl (cy 1, 81, .inl xjaf))], [(xjb, .inr (6, [.ref xjbn]))], [(xjbn, .inl (cy 1, 81, .inl xjbf))], [(xw, .inr (2, [.ref xwu, .ref xwm, .int xwb, .int xwk]))], [(xwm, .inr (6, [.ref xwmn]))], [(xwmn, .inl (cy 1, 81, .inl xwmf))], [(xz, .inr (5, [.ref xzv, .int xzr, .int xzc, .int xzs]))], [(xo, .inr (7, [.ref xoj, .ref xoy, .int xosk, .int xoti, .int xofr, .int xofc, .int xobt, .int xobl, .int xobe, .int xose, .int xotk]))], [(xoj, .inr (3, [.ref xoja, .ref xojb, .int xojr, .int xojk, .int xojc, .int xojg, .int xojs]))], [(xoja, .inr (6, [.ref xojan]))], [(xojan, .inl (cy 1, 81, .inl xojaf))], [(xojb, .inr (6, [.ref xojbn]))], [(xojbn, .inl (cy 1, 81, .inl xojbf))], [(xoy, .inr (4, [.int xoy0, .int xoy1, .int xoy2, .int xoy3, .int xoy4, .int xoy5, .int xoy6, .int xoy7, .int xoy8, .int xoy9]))], [(xy, .inr (4, [.int x_6.1, .int x_6.2.1, .int x_6.2.2.1, .int x_6.2.2.2.1, .int x_6.2.2.2.2.1, .int x_6.2.2.2.2.2.1, .int x_6.2.2.2.2.2.2.1, .int x_6.2.2.2.2.2.2.2.1, .int x_6.2.2.2.2.2.2.2.2.1, .int x_6.2.2.2.2.2.2.2.2.2.1]))], [(xt, .inr (4, [.int x_6.2.2.2.2.2.2.2.2.2.2.1, .int x_6.2.2.2.2.2.2.2.2.2.2.2.1, .int x_6.2.2.2.2.2.2.2.2.2.2.2.2.1, .int x_6.2.2.2.2.2.2.2.2.2.2.2.2.2.1, .int x_6.2.2.2.2.2.2.2.2.2.2.2.2.2.2.1, .int x_6.2.2.2.2.2.2.2.2.2.2.2.2.2.2.2.1, .int x_6.2.2.2.2.2.2.2.2.2.2.2.2.2.2.2.2.1, .int x_6.2.2.2.2.2.2.2.2.2.2.2.2.2.2.2.2.2.1, .int x_6.2.2.2.2.2.2.2.2.2.2.2.2.2.2.2.2.2.2.1, .int x_6.2.2.2.2.2.2.2.2.2.2.2.2.2.2.2.2.2.2.2]))]] rfl (by decide +kernel) rfl ?_
    refine xr_aload_n (n := 25) (j := 0) C dX6_start_24 rfl rfl ?_
    refine xr_get (n := 28) C 0 rfl rfl 4 (by decide) in_X6 u_293 rfl (v := .ref xy) rfl dX6_start_25 rfl ?_
    obtain ⟨x_10, hx_10, hR⟩ := yf_b hR
    refine xr_callVp (n := 31) (As := []) (rest := []) C (kX2_isEmpty l D cy (y := xy) (y0 := x_6.1) (y1 := x_6.2.1) (y2 := x_6.2.2.1) (y3 := x_6.2.2.2.1) (y4 := x_6.2.2.2.2.1) (y5 := x_6.2.2.2.2.2.1) (y6 := x_6.2.2.2.2.2.2.1) (y7 := x_6.2.2.2.2.2.2.2.1) (y8 := x_6.2.2.2.2.2.2.2.2.1) (y9 := x_6.2.2.2.2.2.2.2.2.2.1) hx_10) mX2_isEmpty u_378 u_379 u_380 17 rfl rfl 19 [17] [0, 1, 2, 3, 4, 5, 6, 7, 8, 9, 10, 11, 12, 13, 14, 15, 16, 18] rfl (by decide +kernel) rfl rfl rfl rfl (Nat.le_of_ble_eq_true rfl) (Nat.le_of_ble_eq_true rfl) (Nat.le_of_ble_eq_true rfl) (Nat.le_of_ble_eq_true rfl) (Nat.le_of_ble_eq_true rfl) dX6_start_28 rfl (fun _ _ hp => hp.2) (fun v_11 hp_13 => ?_)
    obtain ⟨rfl, -⟩ := hp_13
    refine xr_st (st' := [.int x_10]) rfl ?_
    refine xr_if_eq (tgt := 44) (n := 34) C dX6_start_31 rfl rfl (fun c_14 => ?_) (fun c_14 => ?_)
    · replace hR := yf_t c_14 hR
      refine xr_aload_n (n := 45) (j := 0) C dX6_start_44 rfl rfl ?_
      refine xr_get (n := 48) C 0 rfl rfl 3 (by decide) in_X6 u_292 rfl (v := .ref xo) rfl dX6_start_45 rfl ?_
      refine xr_aload_n (n := 49) (j := 0) C dX6_start_48 rfl rfl ?_
      refine xr_get (n := 52) C 0 rfl rfl 0 (by decide) in_X6 u_289 rfl (v := .ref xj) rfl dX6_start_49 rfl ?_
      refine xr_aload_n (n := 53) (j := 0) C dX6_start_52 rfl rfl ?_
      refine xr_get (n := 56) C 0 rfl rfl 4 (by decide) in_X6 u_293 rfl (v := .ref xy) rfl dX6_start_53 rfl ?_
      refine xr_aload_n (n := 57) (j := 0) C dX6_start_56 rfl rfl ?_
      refine xr_get (n := 60) C 0 rfl rfl 1 (by decide) in_X6 u_290 rfl (v := .ref xw) rfl dX6_start_57 rfl ?_
      obtain ⟨x_15, hx_15, hR⟩ := yf_b hR
      refine xr_callV (n := 63) (As := [.ref xj, .ref xy, .ref xw]) (rest := []) C (kX5_begin l D cy (o := xo) (oj := xoj) (oy := xoy) (osk := xosk) (oti := xoti) (ofr := xofr) (ofc := xofc) (obt := xobt) (obl := xobl) (obe := xobe) (ose := xose) (otk := xotk) (oja := xoja) (ojb := xojb) (ojr := xojr) (ojk := xojk) (ojc := xojc) (ojg := xojg) (ojs := xojs) (ojan := xojan) (ojaf := xojaf) (ojbn := xojbn) (ojbf := xojbf) (oy0 := xoy0) (oy1 := xoy1) (oy2 := xoy2) (oy3 := xoy3) (oy4 := xoy4) (oy5 := xoy5) (oy6 := xoy6) (oy7 := xoy7) (oy8 := xoy8) (oy9 := xoy9) (j := xj) (ja := xja) (jb := xjb) (jr := xjr) (jk := xjk) (jc := xjc) (jg := xjg) (js := xjs) (jan := xjan) (jaf := xjaf) (jbn := xjbn) (jbf := xjbf) (t := xy) (t0 := x_6.1) (t1 := x_6.2.1) (t2 := x_6.2.2.1) (t3 := x_6.2.2.2.1) (t4 := x_6.2.2.2.2.1) (t5 := x_6.2.2.2.2.2.1) (t6 := x_6.2.2.2.2.2.2.1) (t7 := x_6.2.2.2.2.2.2.2.1) (t8 := x_6.2.2.2.2.2.2.2.2.1) (t9 := x_6.2.2.2.2.2.2.2.2.2.1) (w := xw) (wu := xwu) (wm := xwm) (wb := xwb) (wk := xwk) (wmn := xwmn) (wmf := xwmf) hx_15) mX5_begin u_759 u_760 u_761 10 rfl rfl 19 [10, 11, 12, 13, 14, 15, 16, 1, 2, 3, 4, 5, 17, 6, 7, 8] [0, 9, 18] rfl (by decide +kernel) rfl rfl rfl rfl (Nat.le_of_ble_eq_true rfl) (Nat.le_of_ble_eq_true rfl) (Nat.le_of_ble_eq_true rfl) (Nat.le_of_ble_eq_true rfl) (Nat.le_of_ble_eq_true rfl) dX6_start_60 rfl (fun v_16 u_17 hp_18 => ?_)
      obtain ⟨rfl, rfl⟩ := hp_18
      refine xr_perm C 19 [16, 7, 8, 9, 10, 11, 13, 14, 15, 17, 0, 1, 2, 3, 4, 5, 6, 12, 18] [] [[(x, .inr (8, [.ref xj, .ref xw, .ref xz, .ref xo, .ref xy, .ref xt]))], [(xj, .inr (3, [.ref xja, .ref xjb, .int xjr, .int xjk, .int xjc, .int xjg, .int xjs]))], [(xja, .inr (6, [.ref xjan]))], [(xjan, .inl (cy 1, 81, .inl xjaf))], [(xjb, .inr (6, [.ref xjbn]))], [(xjbn, .inl (cy 1, 81, .inl xjbf))], [(xw, .inr (2, [.ref xwu, .ref xwm, .int xwb, .int xwk]))], [(xwm, .inr (6, [.ref xwmn]))], [(xwmn, .inl (cy 1, 81, .inl x_15.2.2.2.2.2.2.2.2.2.2.2.2.2.2.2.2.2.2.2.2.2.2.2.2))], [(xz, .inr (5, [.ref xzv, .int xzr, .int xzc, .int xzs]))], [(xo, .inr (7, [.ref xoj, .ref xoy, .int x_15.1, .int x_15.2.1, .int x_15.2.2.1, .int x_15.2.2.2.1, .int x_15.2.2.2.2.1, .int x_15.2.2.2.2.2.1, .int xobe, .int x_15.2.2.2.2.2.2.1, .int xotk]))], [(xoj, .inr (3, [.ref xoja, .ref xojb, .int x_15.2.2.2.2.2.2.2.1, .int x_15.2.2.2.2.2.2.2.2.1, .int x_15.2.2.2.2.2.2.2.2.2.1, .int x_15.2.2.2.2.2.2.2.2.2.2.1, .int x_15.2.2.2.2.2.2.2.2.2.2.2.1]))], [(xoja, .inr (6, [.ref xojan]))], [(xojan, .inl (cy 1, 81, .inl x_15.2.2.2.2.2.2.2.2.2.2.2.2.1))], [(xojb, .inr (6, [.ref xojbn]))], [(xojbn, .inl (cy 1, 81, .inl x_15.2.2.2.2.2.2.2.2.2.2.2.2.2.1))], [(xoy, .inr (4, [.int x_15.2.2.2.2.2.2.2.2.2.2.2.2.2.2.1, .int x_15.2.2.2.2.2.2.2.2.2.2.2.2.2.2.2.1, .int x_15.2.2.2.2.2.2.2.2.2.2.2.2.2.2.2.2.1, .int x_15.2.2.2.2.2.2.2.2.2.2.2.2.2.2.2.2.2.1, .int x_15.2.2.2.2.2.2.2.2.2.2.2.2.2.2.2.2.2.2.1, .int x_15.2.2.2.2.2.2.2.2.2.2.2.2.2.2.2.2.2.2.2.1, .int x_15.2.2.2.2.2.2.2.2.2.2.2.2.2.2.2.2.2.2.2.2.1, .int x_15.2.2.2.2.2.2.2.2.2.2.2.2.2.2.2.2.2.2.2.2.2.1, .int x_15.2.2.2.2.2.2.2.2.2.2.2.2.2.2.2.2.2.2.2.2.2.2.1, .int x_15.2.2.2.2.2.2.2.2.2.2.2.2.2.2.2.2.2.2.2.2.2.2.2.1]))], [(xy, .inr (4, [.int x_6.1, .int x_6.2.1, .int x_6.2.2.1, .int x_6.2.2.2.1, .int x_6.2.2.2.2.1, .int x_6.2.2.2.2.2.1, .int x_6.2.2.2.2.2.2.1, .int x_6.2.2.2.2.2.2.2.1, .int x_6.2.2.2.2.2.2.2.2.1, .int x_6.2.2.2.2.2.2.2.2.2.1]))], [(xt, .inr (4, [.int x_6.2.2.2.2.2.2.2.2.2.2.1, .int x_6.2.2.2.2.2.2.2.2.2.2.2.1, .int x_6.2.2.2.2.2.2.2.2.2.2.2.2.1, .int x_6.2.2.2.2.2.2.2.2.2.2.2.2.2.1, .int x_6.2.2.2.2.2.2.2.2.2.2.2.2.2.2.1, .int x_6.2.2.2.2.2.2.2.2.2.2.2.2.2.2.2.1, .int x_6.2.2.2.2.2.2.2.2.2.2.2.2.2.2.2.2.1, .int x_6.2.2.2.2.2.2.2.2.2.2.2.2.2.2.2.2.2.1, .int x_6.2.2.2.2.2.2.2.2.2.2.2.2.2.2.2.2.2.2.1, .int x_6.2.2.2.2.2.2.2.2.2.2.2.2.2.2.2.2.2.2.2]))]] rfl (by decide +kernel) rfl ?_
      refine xr_aload_n (n := 64) (j := 0) C dX6_start_63 rfl rfl ?_
      refine xr_get (n := 67) C 0 rfl rfl 2 (by decide) in_X6 u_291 rfl (v := .ref xz) rfl dX6_start_64 rfl ?_
      obtain ⟨x_19, hx_19, hR⟩ := yf_b hR
      refine xr_callV (n := 70) (As := []) (rest := []) C (kX3_clear l D cy (z := xz) (zv := xzv) (zr := xzr) (zc := xzc) (zs := xzs) hx_19) mX3_clear u_783 u_784 u_785 9 rfl rfl 19 [9] [0, 1, 2, 3, 4, 5, 6, 7, 8, 10, 11, 12, 13, 14, 15, 16, 17, 18] rfl (by decide +kernel) rfl rfl rfl rfl (Nat.le_of_ble_eq_true rfl) (Nat.le_of_ble_eq_true rfl) (Nat.le_of_ble_eq_true rfl) (Nat.le_of_ble_eq_true rfl) (Nat.le_of_ble_eq_true rfl) dX6_start_67 rfl (fun v_20 u_21 hp_22 => ?_)
      obtain ⟨rfl, rfl⟩ := hp_22
      refine xr_perm C 19 [1, 2, 3, 4, 5, 6, 7, 8, 9, 0, 10, 11, 12, 13, 14, 15, 16, 17, 18] [] [[(x, .inr (8, [.ref xj, .ref xw, .ref xz, .ref xo, .ref xy, .ref xt]))], [(xj, .inr (3, [.ref xja, .ref xjb, .int xjr, .int xjk, .int xjc, .int xjg, .int xjs]))], [(xja, .inr (6, [.ref xjan]))], [(xjan, .inl (cy 1, 81, .inl xjaf))], [(xjb, .inr (6, [.ref xjbn]))], [(xjbn, .inl (cy 1, 81, .inl xjbf))], [(xw, .inr (2, [.ref xwu, .ref xwm, .int xwb, .int xwk]))], [(xwm, .inr (6, [.ref xwmn]))], [(xwmn, .inl (cy 1, 81, .inl x_15.2.2.2.2.2.2.2.2.2.2.2.2.2.2.2.2.2.2.2.2.2.2.2.2))], [(xz, .inr (5, [.ref xzv, .int x_19.1, .int x_19.2.1, .int x_19.2.2]))], [(xo, .inr (7, [.ref xoj, .ref xoy, .int x_15.1, .int x_15.2.1, .int x_15.2.2.1, .int x_15.2.2.2.1, .int x_15.2.2.2.2.1, .int x_15.2.2.2.2.2.1, .int xobe, .int x_15.2.2.2.2.2.2.1, .int xotk]))], [(xoj, .inr (3, [.ref xoja, .ref xojb, .int x_15.2.2.2.2.2.2.2.1, .int x_15.2.2.2.2.2.2.2.2.1, .int x_15.2.2.2.2.2.2.2.2.2.1, .int x_15.2.2.2.2.2.2.2.2.2.2.1, .int x_15.2.2.2.2.2.2.2.2.2.2.2.1]))], [(xoja, .inr (6, [.ref xojan]))], [(xojan, .inl (cy 1, 81, .inl x_15.2.2.2.2.2.2.2.2.2.2.2.2.1))], [(xojb, .inr (6, [.ref xojbn]))], [(xojbn, .inl (cy 1, 81, .inl x_15.2.2.2.2.2.2.2.2.2.2.2.2.2.1))], [(xoy, .inr (4, [.int x_15.2.2.2.2.2.2.2.2.2.2.2.2.2.2.1, .int x_15.2.2.2.2.2.2.2.2.2.2.2.2.2.2.2.1, .int x_15.2.2.2.2.2.2.2.2.2.2.2.2.2.2.2.2.1, .int x_15.2.2.2.2.2.2.2.2.2.2.2.2.2.2.2.2.2.1, .int x_15.2.2.2.2.2.2.2.2.2.2.2.2.2.2.2.2.2.2.1, .int x_15.2.2.2.2.2.2.2.2.2.2.2.2.2.2.2.2.2.2.2.1, .int x_15.2.2.2.2.2.2.2.2.2.2.2.2.2.2.2.2.2.2.2.2.1, .int x_15.2.2.2.2.2.2.2.2.2.2.2.2.2.2.2.2.2.2.2.2.2.1, .int x_15.2.2.2.2.2.2.2.2.2.2.2.2.2.2.2.2.2.2.2.2.2.2.1, .int x_15.2.2.2.2.2.2.2.2.2.2.2.2.2.2.2.2.2.2.2.2.2.2.2.1]))], [(xy, .inr (4, [.int x_6.1, .int x_6.2.1, .int x_6.2.2.1, .int x_6.2.2.2.1, .int x_6.2.2.2.2.1, .int x_6.2.2.2.2.2.1, .int x_6.2.2.2.2.2.2.1, .int x_6.2.2.2.2.2.2.2.1, .int x_6.2.2.2.2.2.2.2.2.1, .int x_6.2.2.2.2.2.2.2.2.2.1]))], [(xt, .inr (4, [.int x_6.2.2.2.2.2.2.2.2.2.2.1, .int x_6.2.2.2.2.2.2.2.2.2.2.2.1, .int x_6.2.2.2.2.2.2.2.2.2.2.2.2.1, .int x_6.2.2.2.2.2.2.2.2.2.2.2.2.2.1, .int x_6.2.2.2.2.2.2.2.2.2.2.2.2.2.2.1, .int x_6.2.2.2.2.2.2.2.2.2.2.2.2.2.2.2.1, .int x_6.2.2.2.2.2.2.2.2.2.2.2.2.2.2.2.2.1, .int x_6.2.2.2.2.2.2.2.2.2.2.2.2.2.2.2.2.2.1, .int x_6.2.2.2.2.2.2.2.2.2.2.2.2.2.2.2.2.2.2.1, .int x_6.2.2.2.2.2.2.2.2.2.2.2.2.2.2.2.2.2.2.2]))]] rfl (by decide +kernel) rfl ?_
      refine xr_aload_n (n := 71) (j := 0) C dX6_start_70 rfl rfl ?_
      refine xr_get (n := 74) C 0 rfl rfl 3 (by decide) in_X6 u_292 rfl (v := .ref xo) rfl dX6_start_71 rfl ?_
      refine xr_getN (n := 77) C 10 rfl rfl 7 (by decide) in_X5 RX6 (List.mem_of_getElem? (i := 40) rfl) rfl (v := .int x_15.2.2.2.2.2.1) rfl dX6_start_74 rfl ?_
      obtain rfl := Option.some.inj hR
      exact ret x_15.2.2.2.2.2.1 ⟨_, rfl, rfl, rfl⟩ (Nat.le_of_ble_eq_true rfl) (Nat.le_of_ble_eq_true rfl) dX6_start_77
    · replace hR := yf_f c_14 hR
      obtain rfl := Option.some.inj hR
      exact thr "java/lang/IllegalStateException" "there is no layout" 110 149 114 yt_X6_149 ⟨_, rfl, rfl, rfl⟩ (Nat.le_of_ble_eq_true rfl) (Nat.le_of_ble_eq_true rfl) (Nat.le_of_ble_eq_true rfl) (Nat.le_of_ble_eq_true rfl) dX6_start_34 dX6_start_37 dX6_start_38 dX6_start_40 dX6_start_43
  · replace hR := yf_f c_5 hR
    obtain rfl := Option.some.inj hR
    exact thr "java/lang/IllegalStateException" "a work runs" 110 138 114 yt_X6_138 ⟨_, rfl, rfl, rfl⟩ (Nat.le_of_ble_eq_true rfl) (Nat.le_of_ble_eq_true rfl) (Nat.le_of_ble_eq_true rfl) (Nat.le_of_ble_eq_true rfl) dX6_start_10 dX6_start_13 dX6_start_14 dX6_start_16 dX6_start_19
theorem dX6_beat_0 : decode cX6_beat 0 = .ok (.iload_n 1, 1) := by decide +kernel
theorem dX6_beat_1 : decode cX6_beat 1 = .ok (.iconst 1, 1) := by decide +kernel
theorem dX6_beat_2 : decode cX6_beat 2 = .ok (.if_icmp .lt 10, 3) := by decide +kernel
theorem dX6_beat_5 : decode cX6_beat 5 = .ok (.iload_n 1, 1) := by decide +kernel
theorem dX6_beat_6 : decode cX6_beat 6 = .ok (.sipush 300, 3) := by decide +kernel
theorem dX6_beat_9 : decode cX6_beat 9 = .ok (.if_icmp .le 13, 3) := by decide +kernel
theorem dX6_beat_12 : decode cX6_beat 12 = .ok (.new 47, 3) := by decide +kernel
theorem dX6_beat_15 : decode cX6_beat 15 = .ok (.dup, 1) := by decide +kernel
theorem dX6_beat_16 : decode cX6_beat 16 = .ok (.ldc 161, 2) := by decide +kernel
theorem dX6_beat_18 : decode cX6_beat 18 = .ok (.invokespecial 51, 3) := by decide +kernel
theorem dX6_beat_21 : decode cX6_beat 21 = .ok (.athrow, 1) := by decide +kernel
theorem dX6_beat_22 : decode cX6_beat 22 = .ok (.aload_n 0, 1) := by decide +kernel
theorem dX6_beat_23 : decode cX6_beat 23 = .ok (.getfield 33, 3) := by decide +kernel
theorem dX6_beat_26 : decode cX6_beat 26 = .ok (.invokevirtual 134, 3) := by decide +kernel
theorem dX6_beat_29 : decode cX6_beat 29 = .ok (.ifCond .ne 13, 3) := by decide +kernel
theorem dX6_beat_32 : decode cX6_beat 32 = .ok (.new 110, 3) := by decide +kernel
theorem dX6_beat_35 : decode cX6_beat 35 = .ok (.dup, 1) := by decide +kernel
theorem dX6_beat_36 : decode cX6_beat 36 = .ok (.ldc 163, 2) := by decide +kernel
theorem dX6_beat_38 : decode cX6_beat 38 = .ok (.invokespecial 114, 3) := by decide +kernel
theorem dX6_beat_41 : decode cX6_beat 41 = .ok (.athrow, 1) := by decide +kernel
theorem dX6_beat_42 : decode cX6_beat 42 = .ok (.iconst 0, 1) := by decide +kernel
theorem dX6_beat_43 : decode cX6_beat 43 = .ok (.istore_n 2, 1) := by decide +kernel
theorem dX6_beat_44 : decode cX6_beat 44 = .ok (.iload_n 2, 1) := by decide +kernel
theorem dX6_beat_45 : decode cX6_beat 45 = .ok (.iload_n 1, 1) := by decide +kernel
theorem dX6_beat_46 : decode cX6_beat 46 = .ok (.if_icmp .ge 34, 3) := by decide +kernel
theorem dX6_beat_49 : decode cX6_beat 49 = .ok (.aload_n 0, 1) := by decide +kernel
theorem dX6_beat_50 : decode cX6_beat 50 = .ok (.getfield 33, 3) := by decide +kernel
theorem dX6_beat_53 : decode cX6_beat 53 = .ok (.invokevirtual 134, 3) := by decide +kernel
theorem dX6_beat_56 : decode cX6_beat 56 = .ok (.ifCond .eq 24, 3) := by decide +kernel
theorem dX6_beat_59 : decode cX6_beat 59 = .ok (.aload_n 0, 1) := by decide +kernel
theorem dX6_beat_60 : decode cX6_beat 60 = .ok (.getfield 33, 3) := by decide +kernel
theorem dX6_beat_63 : decode cX6_beat 63 = .ok (.aload_n 0, 1) := by decide +kernel
theorem dX6_beat_64 : decode cX6_beat 64 = .ok (.getfield 19, 3) := by decide +kernel
theorem dX6_beat_67 : decode cX6_beat 67 = .ok (.aload_n 0, 1) := by decide +kernel
theorem dX6_beat_68 : decode cX6_beat 68 = .ok (.getfield 26, 3) := by decide +kernel
theorem dX6_beat_71 : decode cX6_beat 71 = .ok (.invokevirtual 165, 3) := by decide +kernel
theorem dX6_beat_74 : decode cX6_beat 74 = .ok (.iinc 2 1, 3) := by decide +kernel
theorem dX6_beat_77 : decode cX6_beat 77 = .ok (.goto (-33), 3) := by decide +kernel
theorem dX6_beat_80 : decode cX6_beat 80 = .ok (.aload_n 0, 1) := by decide +kernel
theorem dX6_beat_81 : decode cX6_beat 81 = .ok (.getfield 33, 3) := by decide +kernel
theorem dX6_beat_84 : decode cX6_beat 84 = .ok (.getfield 158, 3) := by decide +kernel
theorem dX6_beat_87 : decode cX6_beat 87 = .ok (.ireturn, 1) := by decide +kernel
def fX6_beat (xosk : Int32) (xoti : Int32) (xofr : Int32) (xofc : Int32) (xobt : Int32) (xobl : Int32) (xobe : Int32) (xotk : Int32) (xojr : Int32) (xojc : Int32) (xojg : Int32) (xojs : Int32) (xojaf : Nat → Int32) (xojbf : Nat → Int32) (xoy0 : Int32) (xoy1 : Int32) (xoy2 : Int32) (xoy3 : Int32) (xoy4 : Int32) (xoy5 : Int32) (xoy6 : Int32) (xwb : Int32) (xwuf : Nat → Int32) (xwmf : Nat → Int32) (xzr : Int32) (xzc : Int32) (xzs : Int32) (xzvf : Nat → Int32) (i1 : Int32) : Option (Nat ⊕ (Int32 × Int32 × Int32 × Int32 × Int32 × Int32 × Int32 × Int32 × (Nat → Int32) × (Nat → Int32) × Int32 × Int32 × Int32 × (Nat → Int32))) := (if i1 < 1 then some (.inl 0) else (if i1 ≤ 300 then ((fX5_runs xobl).bind fun x_3 => (if x_3 = 0 then some (.inl 2) else ((wl (S := Int32 × Int32 × Int32 × Int32 × Int32 × Int32 × Int32 × Int32 × (Nat → Int32) × (Nat → Int32) × Int32 × Int32 × Int32 × (Nat → Int32)) (B := Int32 × Int32 × Int32 × Int32 × Int32 × Int32 × Int32 × Int32 × (Nat → Int32) × (Nat → Int32) × Int32 × Int32 × Int32 × (Nat → Int32)) (fun s_8 => (if i1 ≤ s_8.1 then some (.inr (s_8.1, s_8.2.1, s_8.2.2.1, s_8.2.2.2.1, s_8.2.2.2.2.1, s_8.2.2.2.2.2.1, s_8.2.2.2.2.2.2.1, s_8.2.2.2.2.2.2.2.1, s_8.2.2.2.2.2.2.2.2.1, s_8.2.2.2.2.2.2.2.2.2.1, s_8.2.2.2.2.2.2.2.2.2.2.1, s_8.2.2.2.2.2.2.2.2.2.2.2.1, s_8.2.2.2.2.2.2.2.2.2.2.2.2.1, s_8.2.2.2.2.2.2.2.2.2.2.2.2.2)) else ((fX5_runs s_8.2.2.2.2.2.1).bind fun x_11 => (if x_11 = 0 then some (.inr (s_8.1, s_8.2.1, s_8.2.2.1, s_8.2.2.2.1, s_8.2.2.2.2.1, s_8.2.2.2.2.2.1, s_8.2.2.2.2.2.2.1, s_8.2.2.2.2.2.2.2.1, s_8.2.2.2.2.2.2.2.2.1, s_8.2.2.2.2.2.2.2.2.2.1, s_8.2.2.2.2.2.2.2.2.2.2.1, s_8.2.2.2.2.2.2.2.2.2.2.2.1, s_8.2.2.2.2.2.2.2.2.2.2.2.2.1, s_8.2.2.2.2.2.2.2.2.2.2.2.2.2)) else ((fX5_pulse xosk s_8.2.1 s_8.2.2.1 s_8.2.2.2.1 s_8.2.2.2.2.1 s_8.2.2.2.2.2.1 s_8.2.2.2.2.2.2.1 s_8.2.2.2.2.2.2.2.1 xojr xojc xojg xojs xojaf xojbf xoy0 xoy1 xoy2 xoy3 xoy4 xoy5 xoy6 xwb s_8.2.2.2.2.2.2.2.2.1 s_8.2.2.2.2.2.2.2.2.2.1 s_8.2.2.2.2.2.2.2.2.2.2.1 s_8.2.2.2.2.2.2.2.2.2.2.2.1 s_8.2.2.2.2.2.2.2.2.2.2.2.2.1 s_8.2.2.2.2.2.2.2.2.2.2.2.2.2).bind fun x_17 => some (.inl (s_8.1 + 1, x_17.1, x_17.2.1, x_17.2.2.1, x_17.2.2.2.1, x_17.2.2.2.2.1, x_17.2.2.2.2.2.1, x_17.2.2.2.2.2.2.1, x_17.2.2.2.2.2.2.2.1, x_17.2.2.2.2.2.2.2.2.1, x_17.2.2.2.2.2.2.2.2.2.1, x_17.2.2.2.2.2.2.2.2.2.2.1, x_17.2.2.2.2.2.2.2.2.2.2.2.1, x_17.2.2.2.2.2.2.2.2.2.2.2.2))))))) yFuel (0, xoti, xofr, xofc, xobt, xobl, xobe, xotk, xwuf, xwmf, xzr, xzc, xzs, xzvf)).bind fun b_8 => some (.inr (b_8.2.2.2.2.2.1, b_8.2.1, b_8.2.2.1, b_8.2.2.2.1, b_8.2.2.2.2.1, b_8.2.2.2.2.2.1, b_8.2.2.2.2.2.2.1, b_8.2.2.2.2.2.2.2.1, b_8.2.2.2.2.2.2.2.2.1, b_8.2.2.2.2.2.2.2.2.2.1, b_8.2.2.2.2.2.2.2.2.2.2.1, b_8.2.2.2.2.2.2.2.2.2.2.2.1, b_8.2.2.2.2.2.2.2.2.2.2.2.2.1, b_8.2.2.2.2.2.2.2.2.2.2.2.2.2))))) else some (.inl 0)))
abbrev hX6_beat : Cond := .code yX6_beat cX6_beat 3 (some .int)
theorem mX6_beat : yM yX6_beat hX6_beat 1 := ⟨u_793, u_57, by decide +kernel, by decide +kernel, by decide +kernel⟩
set_option maxHeartbeats 4000000 in
set_option maxRecDepth 100000 in
theorem kX6_beat (l : Launch) (D : va_G) (cy : Nat → ClassId) (hl0 : l.stackTraces = false) (x : Nat) (xj : Nat) (xw : Nat) (xz : Nat) (xo : Nat) (xy : Nat) (xt : Nat) (xoj : Nat) (xoy : Nat) (xosk : Int32) (xoti : Int32) (xofr : Int32) (xofc : Int32) (xobt : Int32) (xobl : Int32) (xobe : Int32) (xose : Int32) (xotk : Int32) (xoja : Nat) (xojb : Nat) (xojr : Int32) (xojk : Int32) (xojc : Int32) (xojg : Int32) (xojs : Int32) (xojan : Nat) (xojaf : Nat → Int32) (xojbn : Nat) (xojbf : Nat → Int32) (xoy0 : Int32) (xoy1 : Int32) (xoy2 : Int32) (xoy3 : Int32) (xoy4 : Int32) (xoy5 : Int32) (xoy6 : Int32) (xoy7 : Int32) (xoy8 : Int32) (xoy9 : Int32) (xwu : Nat) (xwm : Nat) (xwb : Int32) (xwk : Int32) (xwun : Nat) (xwuf : Nat → Int32) (xwmn : Nat) (xwmf : Nat → Int32) (xzv : Nat) (xzr : Int32) (xzc : Int32) (xzs : Int32) (xzvn : Nat) (xzvf : Nat → Int32) (i1 : Int32) {res : Nat ⊕ (Int32 × Int32 × Int32 × Int32 × Int32 × Int32 × Int32 × Int32 × (Nat → Int32) × (Nat → Int32) × Int32 × Int32 × Int32 × (Nat → Int32))} (hR : fX6_beat xosk xoti xofr xofc xobt xobl xobe xotk xojr xojc xojg xojs xojaf xojbf xoy0 xoy1 xoy2 xoy3 xoy4 xoy5 xoy6 xwb xwuf xwmf xzr xzc xzs xzvf i1 = some res) : YX l D cy yX6_beat hX6_beat 6 1 6 [.ref x, .int i1] [[(x, .inr (8, [.ref xj, .ref xw, .ref xz, .ref xo, .ref xy, .ref xt]))], [(xo, .inr (7, [.ref xoj, .ref xoy, .int xosk, .int xoti, .int xofr, .int xofc, .int xobt, .int xobl, .int xobe, .int xose, .int xotk]))], [(xoj, .inr (3, [.ref xoja, .ref xojb, .int xojr, .int xojk, .int xojc, .int xojg, .int xojs]))], [(xoja, .inr (6, [.ref xojan]))], [(xojan, .inl (cy 1, 81, .inl xojaf))], [(xojb, .inr (6, [.ref xojbn]))], [(xojbn, .inl (cy 1, 81, .inl xojbf))], [(xoy, .inr (4, [.int xoy0, .int xoy1, .int xoy2, .int xoy3, .int xoy4, .int xoy5, .int xoy6, .int xoy7, .int xoy8, .int xoy9]))], [(xw, .inr (2, [.ref xwu, .ref xwm, .int xwb, .int xwk]))], [(xwu, .inr (6, [.ref xwun]))], [(xwun, .inl (cy 1, 81, .inl xwuf))], [(xwm, .inr (6, [.ref xwmn]))], [(xwmn, .inl (cy 1, 81, .inl xwmf))], [(xz, .inr (5, [.ref xzv, .int xzr, .int xzc, .int xzs]))], [(xzv, .inr (6, [.ref xzvn]))], [(xzvn, .inl (cy 1, 81, .inl xzvf))]] (fun v u => ∃ r, res = .inr r ∧ v = some (.int r.1) ∧ u = [[(x, .inr (8, [.ref xj, .ref xw, .ref xz, .ref xo, .ref xy, .ref xt]))], [(xo, .inr (7, [.ref xoj, .ref xoy, .int xosk, .int r.2.1, .int r.2.2.1, .int r.2.2.2.1, .int r.2.2.2.2.1, .int r.2.2.2.2.2.1, .int r.2.2.2.2.2.2.1, .int xose, .int r.2.2.2.2.2.2.2.1]))], [(xoj, .inr (3, [.ref xoja, .ref xojb, .int xojr, .int xojk, .int xojc, .int xojg, .int xojs]))], [(xoja, .inr (6, [.ref xojan]))], [(xojan, .inl (cy 1, 81, .inl xojaf))], [(xojb, .inr (6, [.ref xojbn]))], [(xojbn, .inl (cy 1, 81, .inl xojbf))], [(xoy, .inr (4, [.int xoy0, .int xoy1, .int xoy2, .int xoy3, .int xoy4, .int xoy5, .int xoy6, .int xoy7, .int xoy8, .int xoy9]))], [(xw, .inr (2, [.ref xwu, .ref xwm, .int xwb, .int xwk]))], [(xwu, .inr (6, [.ref xwun]))], [(xwun, .inl (cy 1, 81, .inl r.2.2.2.2.2.2.2.2.1))], [(xwm, .inr (6, [.ref xwmn]))], [(xwmn, .inl (cy 1, 81, .inl r.2.2.2.2.2.2.2.2.2.1))], [(xz, .inr (5, [.ref xzv, .int r.2.2.2.2.2.2.2.2.2.2.1, .int r.2.2.2.2.2.2.2.2.2.2.2.1, .int r.2.2.2.2.2.2.2.2.2.2.2.2.1]))], [(xzv, .inr (6, [.ref xzvn]))], [(xzvn, .inl (cy 1, 81, .inl r.2.2.2.2.2.2.2.2.2.2.2.2.2))]]) (fun E u => ∃ r, res = .inl r ∧ E = yE r ∧ u = [[(x, .inr (8, [.ref xj, .ref xw, .ref xz, .ref xo, .ref xy, .ref xt]))], [(xo, .inr (7, [.ref xoj, .ref xoy, .int xosk, .int xoti, .int xofr, .int xofc, .int xobt, .int xobl, .int xobe, .int xose, .int xotk]))], [(xoj, .inr (3, [.ref xoja, .ref xojb, .int xojr, .int xojk, .int xojc, .int xojg, .int xojs]))], [(xoja, .inr (6, [.ref xojan]))], [(xojan, .inl (cy 1, 81, .inl xojaf))], [(xojb, .inr (6, [.ref xojbn]))], [(xojbn, .inl (cy 1, 81, .inl xojbf))], [(xoy, .inr (4, [.int xoy0, .int xoy1, .int xoy2, .int xoy3, .int xoy4, .int xoy5, .int xoy6, .int xoy7, .int xoy8, .int xoy9]))], [(xw, .inr (2, [.ref xwu, .ref xwm, .int xwb, .int xwk]))], [(xwu, .inr (6, [.ref xwun]))], [(xwun, .inl (cy 1, 81, .inl xwuf))], [(xwm, .inr (6, [.ref xwmn]))], [(xwmn, .inl (cy 1, 81, .inl xwmf))], [(xz, .inr (5, [.ref xzv, .int xzr, .int xzc, .int xzs]))], [(xzv, .inr (6, [.ref xzvn]))], [(xzvn, .inl (cy 1, 81, .inl xzvf))]]) := by
  unfold fX6_beat at hR
  refine YX.ofI (cc := cX6_beat) (maxL := 3) (ret := (some .int)) hl0 (by decide +kernel) rfl (Nat.le_of_ble_eq_true rfl) [(0, .ref x), (1, .int i1)] rfl rfl (fun p e s m args below meth c A H0 Q C ret thr => ?_)
  refine xr_iload_n (n := 1) (j := 1) C dX6_beat_0 rfl rfl ?_
  refine xr_iconst (n := 2) (v := 1) C dX6_beat_1 rfl rfl ?_
  refine xr_icmp_lt (tgt := 12) (n := 5) C dX6_beat_2 rfl rfl (fun c_1 => ?_) (fun c_1 => ?_)
  · replace hR := yf_t c_1 hR
    obtain rfl := Option.some.inj hR
    exact thr "java/lang/IllegalArgumentException" "beats are 1 to 300" 47 161 51 yt_X6_161 ⟨_, rfl, rfl, rfl⟩ (Nat.le_of_ble_eq_true rfl) (Nat.le_of_ble_eq_true rfl) (Nat.le_of_ble_eq_true rfl) (Nat.le_of_ble_eq_true rfl) dX6_beat_12 dX6_beat_15 dX6_beat_16 dX6_beat_18 dX6_beat_21
  · replace hR := yf_f c_1 hR
    refine xr_iload_n (n := 6) (j := 1) C dX6_beat_5 rfl rfl ?_
    refine xr_sipush (n := 9) (v := 300) C dX6_beat_6 rfl rfl ?_
    refine xr_icmp_le (tgt := 22) (n := 12) C dX6_beat_9 rfl rfl (fun c_2 => ?_) (fun c_2 => ?_)
    · replace hR := yf_t c_2 hR
      refine xr_aload_n (n := 23) (j := 0) C dX6_beat_22 rfl rfl ?_
      refine xr_get (n := 26) C 0 rfl rfl 3 (by decide) in_X6 u_292 rfl (v := .ref xo) rfl dX6_beat_23 rfl ?_
      obtain ⟨x_3, hx_3, hR⟩ := yf_b hR
      refine xr_callVp (n := 29) (As := []) (rest := []) C (kX5_runs l D cy (o := xo) (oj := xoj) (oy := xoy) (osk := xosk) (oti := xoti) (ofr := xofr) (ofc := xofc) (obt := xobt) (obl := xobl) (obe := xobe) (ose := xose) (otk := xotk) hx_3) mX5_runs u_468 u_430 u_431 1 rfl rfl 16 [1] [0, 2, 3, 4, 5, 6, 7, 8, 9, 10, 11, 12, 13, 14, 15] rfl (by decide +kernel) rfl rfl rfl rfl (Nat.le_of_ble_eq_true rfl) (Nat.le_of_ble_eq_true rfl) (Nat.le_of_ble_eq_true rfl) (Nat.le_of_ble_eq_true rfl) (Nat.le_of_ble_eq_true rfl) dX6_beat_26 rfl (fun _ _ hp => hp.2) (fun v_4 hp_6 => ?_)
      obtain ⟨rfl, -⟩ := hp_6
      refine xr_st (st' := [.int x_3]) rfl ?_
      refine xr_if_ne (tgt := 42) (n := 32) C dX6_beat_29 rfl rfl (fun c_7 => ?_) (fun c_7 => ?_)
      · replace hR := yf_f c_7 hR
        refine xr_iconst (n := 43) (v := 0) C dX6_beat_42 rfl rfl ?_
        refine xr_istore_n (n := 44) C [(2, .int 0), (0, .ref x), (1, .int i1)] dX6_beat_43 (by decide) rfl rfl ?_
        refine xr_lv (lv' := [(0, .ref x), (1, .int i1), (2, .int 0)]) [1, 2, 0] rfl ?_
        obtain ⟨b_8, hb_8, hR⟩ := yf_b hR
        have K_8 : X p l e (yR 6 1 6) s m args below meth c D A H0 3 Q [[(x, .inr (8, [.ref xj, .ref xw, .ref xz, .ref xo, .ref xy, .ref xt]))], [(xo, .inr (7, [.ref xoj, .ref xoy, .int xosk, .int b_8.2.1, .int b_8.2.2.1, .int b_8.2.2.2.1, .int b_8.2.2.2.2.1, .int b_8.2.2.2.2.2.1, .int b_8.2.2.2.2.2.2.1, .int xose, .int b_8.2.2.2.2.2.2.2.1]))], [(xoj, .inr (3, [.ref xoja, .ref xojb, .int xojr, .int xojk, .int xojc, .int xojg, .int xojs]))], [(xoja, .inr (6, [.ref xojan]))], [(xojan, .inl (cy 1, 81, .inl xojaf))], [(xojb, .inr (6, [.ref xojbn]))], [(xojbn, .inl (cy 1, 81, .inl xojbf))], [(xoy, .inr (4, [.int xoy0, .int xoy1, .int xoy2, .int xoy3, .int xoy4, .int xoy5, .int xoy6, .int xoy7, .int xoy8, .int xoy9]))], [(xw, .inr (2, [.ref xwu, .ref xwm, .int xwb, .int xwk]))], [(xwu, .inr (6, [.ref xwun]))], [(xwun, .inl (cy 1, 81, .inl b_8.2.2.2.2.2.2.2.2.1))], [(xwm, .inr (6, [.ref xwmn]))], [(xwmn, .inl (cy 1, 81, .inl b_8.2.2.2.2.2.2.2.2.2.1))], [(xz, .inr (5, [.ref xzv, .int b_8.2.2.2.2.2.2.2.2.2.2.1, .int b_8.2.2.2.2.2.2.2.2.2.2.2.1, .int b_8.2.2.2.2.2.2.2.2.2.2.2.2.1]))], [(xzv, .inr (6, [.ref xzvn]))], [(xzvn, .inl (cy 1, 81, .inl b_8.2.2.2.2.2.2.2.2.2.2.2.2.2))]] 0 0 [(0, .ref x)] 80 [] := by
          refine xr_aload_n (n := 81) (j := 0) C dX6_beat_80 rfl rfl ?_
          refine xr_get (n := 84) C 0 rfl rfl 3 (by decide) in_X6 u_292 rfl (v := .ref xo) rfl dX6_beat_81 rfl ?_
          refine xr_getN (n := 87) C 1 rfl rfl 7 (by decide) in_X5 RX6 (List.mem_of_getElem? (i := 40) rfl) rfl (v := .int b_8.2.2.2.2.2.1) rfl dX6_beat_84 rfl ?_
          obtain rfl := Option.some.inj hR
          exact ret b_8.2.2.2.2.2.1 ⟨_, rfl, rfl, rfl⟩ (Nat.le_of_ble_eq_true rfl) (Nat.le_of_ble_eq_true rfl) dX6_beat_87
        refine y_loop (P := fun (s_8 : Int32 × Int32 × Int32 × Int32 × Int32 × Int32 × Int32 × Int32 × (Nat → Int32) × (Nat → Int32) × Int32 × Int32 × Int32 × (Nat → Int32)) => X p l e (yR 6 1 6) s m args below meth c D A H0 3 Q [[(x, .inr (8, [.ref xj, .ref xw, .ref xz, .ref xo, .ref xy, .ref xt]))], [(xo, .inr (7, [.ref xoj, .ref xoy, .int xosk, .int s_8.2.1, .int s_8.2.2.1, .int s_8.2.2.2.1, .int s_8.2.2.2.2.1, .int s_8.2.2.2.2.2.1, .int s_8.2.2.2.2.2.2.1, .int xose, .int s_8.2.2.2.2.2.2.2.1]))], [(xoj, .inr (3, [.ref xoja, .ref xojb, .int xojr, .int xojk, .int xojc, .int xojg, .int xojs]))], [(xoja, .inr (6, [.ref xojan]))], [(xojan, .inl (cy 1, 81, .inl xojaf))], [(xojb, .inr (6, [.ref xojbn]))], [(xojbn, .inl (cy 1, 81, .inl xojbf))], [(xoy, .inr (4, [.int xoy0, .int xoy1, .int xoy2, .int xoy3, .int xoy4, .int xoy5, .int xoy6, .int xoy7, .int xoy8, .int xoy9]))], [(xw, .inr (2, [.ref xwu, .ref xwm, .int xwb, .int xwk]))], [(xwu, .inr (6, [.ref xwun]))], [(xwun, .inl (cy 1, 81, .inl s_8.2.2.2.2.2.2.2.2.1))], [(xwm, .inr (6, [.ref xwmn]))], [(xwmn, .inl (cy 1, 81, .inl s_8.2.2.2.2.2.2.2.2.2.1))], [(xz, .inr (5, [.ref xzv, .int s_8.2.2.2.2.2.2.2.2.2.2.1, .int s_8.2.2.2.2.2.2.2.2.2.2.2.1, .int s_8.2.2.2.2.2.2.2.2.2.2.2.2.1]))], [(xzv, .inr (6, [.ref xzvn]))], [(xzvn, .inl (cy 1, 81, .inl s_8.2.2.2.2.2.2.2.2.2.2.2.2.2))]] 0 0 [(0, .ref x), (1, .int i1), (2, .int s_8.1)] 44 []) ?_ _ (0, xoti, xofr, xofc, xobt, xobl, xobe, xotk, xwuf, xwmf, xzr, xzc, xzs, xzvf) hb_8
        intro s_8 o_8 ho_8 hk_8 hx_8
        refine xr_iload_n (n := 45) (j := 2) C dX6_beat_44 rfl rfl ?_
        refine xr_iload_n (n := 46) (j := 1) C dX6_beat_45 rfl rfl ?_
        refine xr_icmp_ge (tgt := 80) (n := 49) C dX6_beat_46 rfl rfl (fun c_9 => ?_) (fun c_9 => ?_)
        · replace ho_8 := yf_t c_9 ho_8
          refine xr_lv (lv' := [(0, .ref x)]) [0] rfl ?_
          have e_10 := hx_8 _ (Option.some.inj ho_8).symm
          subst e_10
          exact K_8
        · replace ho_8 := yf_f c_9 ho_8
          refine xr_aload_n (n := 50) (j := 0) C dX6_beat_49 rfl rfl ?_
          refine xr_get (n := 53) C 0 rfl rfl 3 (by decide) in_X6 u_292 rfl (v := .ref xo) rfl dX6_beat_50 rfl ?_
          obtain ⟨x_11, hx_11, ho_8⟩ := yf_b ho_8
          refine xr_callVp (n := 56) (As := []) (rest := []) C (kX5_runs l D cy (o := xo) (oj := xoj) (oy := xoy) (osk := xosk) (oti := s_8.2.1) (ofr := s_8.2.2.1) (ofc := s_8.2.2.2.1) (obt := s_8.2.2.2.2.1) (obl := s_8.2.2.2.2.2.1) (obe := s_8.2.2.2.2.2.2.1) (ose := xose) (otk := s_8.2.2.2.2.2.2.2.1) hx_11) mX5_runs u_468 u_430 u_431 1 rfl rfl 16 [1] [0, 2, 3, 4, 5, 6, 7, 8, 9, 10, 11, 12, 13, 14, 15] rfl (by decide +kernel) rfl rfl rfl rfl (Nat.le_of_ble_eq_true rfl) (Nat.le_of_ble_eq_true rfl) (Nat.le_of_ble_eq_true rfl) (Nat.le_of_ble_eq_true rfl) (Nat.le_of_ble_eq_true rfl) dX6_beat_53 rfl (fun _ _ hp => hp.2) (fun v_12 hp_14 => ?_)
          obtain ⟨rfl, -⟩ := hp_14
          refine xr_st (st' := [.int x_11]) rfl ?_
          refine xr_if_eq (tgt := 80) (n := 59) C dX6_beat_56 rfl rfl (fun c_15 => ?_) (fun c_15 => ?_)
          · replace ho_8 := yf_t c_15 ho_8
            refine xr_lv (lv' := [(0, .ref x)]) [0] rfl ?_
            have e_16 := hx_8 _ (Option.some.inj ho_8).symm
            subst e_16
            exact K_8
          · replace ho_8 := yf_f c_15 ho_8
            refine xr_aload_n (n := 60) (j := 0) C dX6_beat_59 rfl rfl ?_
            refine xr_get (n := 63) C 0 rfl rfl 3 (by decide) in_X6 u_292 rfl (v := .ref xo) rfl dX6_beat_60 rfl ?_
            refine xr_aload_n (n := 64) (j := 0) C dX6_beat_63 rfl rfl ?_
            refine xr_get (n := 67) C 0 rfl rfl 1 (by decide) in_X6 u_290 rfl (v := .ref xw) rfl dX6_beat_64 rfl ?_
            refine xr_aload_n (n := 68) (j := 0) C dX6_beat_67 rfl rfl ?_
            refine xr_get (n := 71) C 0 rfl rfl 2 (by decide) in_X6 u_291 rfl (v := .ref xz) rfl dX6_beat_68 rfl ?_
            obtain ⟨x_17, hx_17, ho_8⟩ := yf_b ho_8
            refine xr_callV (n := 74) (As := [.ref xw, .ref xz]) (rest := []) C (kX5_pulse l D cy (o := xo) (oj := xoj) (oy := xoy) (osk := xosk) (oti := s_8.2.1) (ofr := s_8.2.2.1) (ofc := s_8.2.2.2.1) (obt := s_8.2.2.2.2.1) (obl := s_8.2.2.2.2.2.1) (obe := s_8.2.2.2.2.2.2.1) (ose := xose) (otk := s_8.2.2.2.2.2.2.2.1) (oja := xoja) (ojb := xojb) (ojr := xojr) (ojk := xojk) (ojc := xojc) (ojg := xojg) (ojs := xojs) (ojan := xojan) (ojaf := xojaf) (ojbn := xojbn) (ojbf := xojbf) (oy0 := xoy0) (oy1 := xoy1) (oy2 := xoy2) (oy3 := xoy3) (oy4 := xoy4) (oy5 := xoy5) (oy6 := xoy6) (oy7 := xoy7) (oy8 := xoy8) (oy9 := xoy9) (w := xw) (wu := xwu) (wm := xwm) (wb := xwb) (wk := xwk) (wun := xwun) (wuf := s_8.2.2.2.2.2.2.2.2.1) (wmn := xwmn) (wmf := s_8.2.2.2.2.2.2.2.2.2.1) (z := xz) (zv := xzv) (zr := s_8.2.2.2.2.2.2.2.2.2.2.1) (zc := s_8.2.2.2.2.2.2.2.2.2.2.2.1) (zs := s_8.2.2.2.2.2.2.2.2.2.2.2.2.1) (zvn := xzvn) (zvf := s_8.2.2.2.2.2.2.2.2.2.2.2.2.2) hx_17) mX5_pulse u_796 u_797 u_798 1 rfl rfl 16 [1, 2, 3, 4, 5, 6, 7, 8, 9, 10, 11, 12, 13, 14, 15] [0] rfl (by decide +kernel) rfl rfl rfl rfl (Nat.le_of_ble_eq_true rfl) (Nat.le_of_ble_eq_true rfl) (Nat.le_of_ble_eq_true rfl) (Nat.le_of_ble_eq_true rfl) (Nat.le_of_ble_eq_true rfl) dX6_beat_71 rfl (fun v_18 u_19 hp_20 => ?_)
            obtain ⟨rfl, rfl⟩ := hp_20
            refine xr_perm C 16 [15, 0, 1, 2, 3, 4, 5, 6, 7, 8, 9, 10, 11, 12, 13, 14] [] [[(x, .inr (8, [.ref xj, .ref xw, .ref xz, .ref xo, .ref xy, .ref xt]))], [(xo, .inr (7, [.ref xoj, .ref xoy, .int xosk, .int x_17.1, .int x_17.2.1, .int x_17.2.2.1, .int x_17.2.2.2.1, .int x_17.2.2.2.2.1, .int x_17.2.2.2.2.2.1, .int xose, .int x_17.2.2.2.2.2.2.1]))], [(xoj, .inr (3, [.ref xoja, .ref xojb, .int xojr, .int xojk, .int xojc, .int xojg, .int xojs]))], [(xoja, .inr (6, [.ref xojan]))], [(xojan, .inl (cy 1, 81, .inl xojaf))], [(xojb, .inr (6, [.ref xojbn]))], [(xojbn, .inl (cy 1, 81, .inl xojbf))], [(xoy, .inr (4, [.int xoy0, .int xoy1, .int xoy2, .int xoy3, .int xoy4, .int xoy5, .int xoy6, .int xoy7, .int xoy8, .int xoy9]))], [(xw, .inr (2, [.ref xwu, .ref xwm, .int xwb, .int xwk]))], [(xwu, .inr (6, [.ref xwun]))], [(xwun, .inl (cy 1, 81, .inl x_17.2.2.2.2.2.2.2.1))], [(xwm, .inr (6, [.ref xwmn]))], [(xwmn, .inl (cy 1, 81, .inl x_17.2.2.2.2.2.2.2.2.1))], [(xz, .inr (5, [.ref xzv, .int x_17.2.2.2.2.2.2.2.2.2.1, .int x_17.2.2.2.2.2.2.2.2.2.2.1, .int x_17.2.2.2.2.2.2.2.2.2.2.2.1]))], [(xzv, .inr (6, [.ref xzvn]))], [(xzvn, .inl (cy 1, 81, .inl x_17.2.2.2.2.2.2.2.2.2.2.2.2))]] rfl (by decide +kernel) rfl ?_
            refine xr_iinc (j := 2) (v := s_8.1 + 1) (n := 77) C [(2, .int (s_8.1 + 1)), (0, .ref x), (1, .int i1)] dX6_beat_74 rfl rfl (by decide) rfl rfl ?_
            refine xr_goto (tgt := 44) C dX6_beat_77 rfl ?_
            refine xr_lv (lv' := [(0, .ref x), (1, .int i1), (2, .int (s_8.1 + 1))]) [1, 2, 0] rfl ?_
            exact hk_8 (s_8.1 + 1, x_17.1, x_17.2.1, x_17.2.2.1, x_17.2.2.2.1, x_17.2.2.2.2.1, x_17.2.2.2.2.2.1, x_17.2.2.2.2.2.2.1, x_17.2.2.2.2.2.2.2.1, x_17.2.2.2.2.2.2.2.2.1, x_17.2.2.2.2.2.2.2.2.2.1, x_17.2.2.2.2.2.2.2.2.2.2.1, x_17.2.2.2.2.2.2.2.2.2.2.2.1, x_17.2.2.2.2.2.2.2.2.2.2.2.2) (Option.some.inj ho_8).symm
      · replace hR := yf_t c_7 hR
        obtain rfl := Option.some.inj hR
        exact thr "java/lang/IllegalStateException" "no work runs" 110 163 114 yt_X6_163 ⟨_, rfl, rfl, rfl⟩ (Nat.le_of_ble_eq_true rfl) (Nat.le_of_ble_eq_true rfl) (Nat.le_of_ble_eq_true rfl) (Nat.le_of_ble_eq_true rfl) dX6_beat_32 dX6_beat_35 dX6_beat_36 dX6_beat_38 dX6_beat_41
    · replace hR := yf_f c_2 hR
      obtain rfl := Option.some.inj hR
      exact thr "java/lang/IllegalArgumentException" "beats are 1 to 300" 47 161 51 yt_X6_161 ⟨_, rfl, rfl, rfl⟩ (Nat.le_of_ble_eq_true rfl) (Nat.le_of_ble_eq_true rfl) (Nat.le_of_ble_eq_true rfl) (Nat.le_of_ble_eq_true rfl) dX6_beat_12 dX6_beat_15 dX6_beat_16 dX6_beat_18 dX6_beat_21
theorem dX6_bend_0 : decode cX6_bend 0 = .ok (.aload_n 0, 1) := by decide +kernel
theorem dX6_bend_1 : decode cX6_bend 1 = .ok (.getfield 26, 3) := by decide +kernel
theorem dX6_bend_4 : decode cX6_bend 4 = .ok (.iload_n 1, 1) := by decide +kernel
theorem dX6_bend_5 : decode cX6_bend 5 = .ok (.iload_n 2, 1) := by decide +kernel
theorem dX6_bend_6 : decode cX6_bend 6 = .ok (.invokevirtual 169, 3) := by decide +kernel
theorem dX6_bend_9 : decode cX6_bend 9 = .ok (.ifCond .ne 13, 3) := by decide +kernel
theorem dX6_bend_12 : decode cX6_bend 12 = .ok (.new 69, 3) := by decide +kernel
theorem dX6_bend_15 : decode cX6_bend 15 = .ok (.dup, 1) := by decide +kernel
theorem dX6_bend_16 : decode cX6_bend 16 = .ok (.ldc 172, 2) := by decide +kernel
theorem dX6_bend_18 : decode cX6_bend 18 = .ok (.invokespecial 73, 3) := by decide +kernel
theorem dX6_bend_21 : decode cX6_bend 21 = .ok (.athrow, 1) := by decide +kernel
theorem dX6_bend_22 : decode cX6_bend 22 = .ok (.iload_n 3, 1) := by decide +kernel
theorem dX6_bend_23 : decode cX6_bend 23 = .ok (.sipush (-999), 3) := by decide +kernel
theorem dX6_bend_26 : decode cX6_bend 26 = .ok (.if_icmp .lt 10, 3) := by decide +kernel
theorem dX6_bend_29 : decode cX6_bend 29 = .ok (.iload_n 3, 1) := by decide +kernel
theorem dX6_bend_30 : decode cX6_bend 30 = .ok (.sipush 999, 3) := by decide +kernel
theorem dX6_bend_33 : decode cX6_bend 33 = .ok (.if_icmp .le 13, 3) := by decide +kernel
theorem dX6_bend_36 : decode cX6_bend 36 = .ok (.new 47, 3) := by decide +kernel
theorem dX6_bend_39 : decode cX6_bend 39 = .ok (.dup, 1) := by decide +kernel
theorem dX6_bend_40 : decode cX6_bend 40 = .ok (.ldc 174, 2) := by decide +kernel
theorem dX6_bend_42 : decode cX6_bend 42 = .ok (.invokespecial 51, 3) := by decide +kernel
theorem dX6_bend_45 : decode cX6_bend 45 = .ok (.athrow, 1) := by decide +kernel
theorem dX6_bend_46 : decode cX6_bend 46 = .ok (.aload_n 0, 1) := by decide +kernel
theorem dX6_bend_47 : decode cX6_bend 47 = .ok (.getfield 26, 3) := by decide +kernel
theorem dX6_bend_50 : decode cX6_bend 50 = .ok (.getfield 176, 3) := by decide +kernel
theorem dX6_bend_53 : decode cX6_bend 53 = .ok (.iload_n 1, 1) := by decide +kernel
theorem dX6_bend_54 : decode cX6_bend 54 = .ok (.iload_n 2, 1) := by decide +kernel
theorem dX6_bend_55 : decode cX6_bend 55 = .ok (.invokevirtual 84, 3) := by decide +kernel
theorem dX6_bend_58 : decode cX6_bend 58 = .ok (.iload_n 3, 1) := by decide +kernel
theorem dX6_bend_59 : decode cX6_bend 59 = .ok (.iadd, 1) := by decide +kernel
theorem dX6_bend_60 : decode cX6_bend 60 = .ok (.istore 4, 2) := by decide +kernel
theorem dX6_bend_62 : decode cX6_bend 62 = .ok (.aload_n 0, 1) := by decide +kernel
theorem dX6_bend_63 : decode cX6_bend 63 = .ok (.getfield 26, 3) := by decide +kernel
theorem dX6_bend_66 : decode cX6_bend 66 = .ok (.getfield 176, 3) := by decide +kernel
theorem dX6_bend_69 : decode cX6_bend 69 = .ok (.iload_n 1, 1) := by decide +kernel
theorem dX6_bend_70 : decode cX6_bend 70 = .ok (.iload_n 2, 1) := by decide +kernel
theorem dX6_bend_71 : decode cX6_bend 71 = .ok (.iload 4, 2) := by decide +kernel
theorem dX6_bend_73 : decode cX6_bend 73 = .ok (.invokevirtual 90, 3) := by decide +kernel
theorem dX6_bend_76 : decode cX6_bend 76 = .ok (.iload 4, 2) := by decide +kernel
theorem dX6_bend_78 : decode cX6_bend 78 = .ok (.ireturn, 1) := by decide +kernel
def fX6_bend (xzr : Int32) (xzc : Int32) (xzvf : Nat → Int32) (i1 : Int32) (i2 : Int32) (i3 : Int32) : Option (Nat ⊕ (Int32 × (Nat → Int32))) := ((fX3_has xzr xzc i1 i2).bind fun x_1 => (if x_1 = 0 then some (.inl 1) else (if i3 < (-999) then some (.inl 0) else (if i3 ≤ 999 then ((fX4_get xzvf i1 i2).bind fun x_8 => ((fX4_set xzvf i1 i2 (x_8 + i3)).bind fun x_12 => some (.inr (x_8 + i3, x_12)))) else some (.inl 0)))))
abbrev hX6_bend : Cond := .code yX6_bend cX6_bend 5 (some .int)
theorem mX6_bend : yM yX6_bend hX6_bend 3 := ⟨u_835, u_57, by decide +kernel, by decide +kernel, by decide +kernel⟩
set_option maxHeartbeats 4000000 in
set_option maxRecDepth 100000 in
theorem kX6_bend (l : Launch) (D : va_G) (cy : Nat → ClassId) (hl0 : l.stackTraces = false) (x : Nat) (xj : Nat) (xw : Nat) (xz : Nat) (xo : Nat) (xy : Nat) (xt : Nat) (xzv : Nat) (xzr : Int32) (xzc : Int32) (xzs : Int32) (xzvn : Nat) (xzvf : Nat → Int32) (i1 : Int32) (i2 : Int32) (i3 : Int32) {res : Nat ⊕ (Int32 × (Nat → Int32))} (hR : fX6_bend xzr xzc xzvf i1 i2 i3 = some res) : YX l D cy yX6_bend hX6_bend 6 1 6 [.ref x, .int i1, .int i2, .int i3] [[(x, .inr (8, [.ref xj, .ref xw, .ref xz, .ref xo, .ref xy, .ref xt]))], [(xz, .inr (5, [.ref xzv, .int xzr, .int xzc, .int xzs]))], [(xzv, .inr (6, [.ref xzvn]))], [(xzvn, .inl (cy 1, 81, .inl xzvf))]] (fun v u => ∃ r, res = .inr r ∧ v = some (.int r.1) ∧ u = [[(x, .inr (8, [.ref xj, .ref xw, .ref xz, .ref xo, .ref xy, .ref xt]))], [(xz, .inr (5, [.ref xzv, .int xzr, .int xzc, .int xzs]))], [(xzv, .inr (6, [.ref xzvn]))], [(xzvn, .inl (cy 1, 81, .inl r.2))]]) (fun E u => ∃ r, res = .inl r ∧ E = yE r ∧ u = [[(x, .inr (8, [.ref xj, .ref xw, .ref xz, .ref xo, .ref xy, .ref xt]))], [(xz, .inr (5, [.ref xzv, .int xzr, .int xzc, .int xzs]))], [(xzv, .inr (6, [.ref xzvn]))], [(xzvn, .inl (cy 1, 81, .inl xzvf))]]) := by
  unfold fX6_bend at hR
  refine YX.ofI (cc := cX6_bend) (maxL := 5) (ret := (some .int)) hl0 (by decide +kernel) rfl (Nat.le_of_ble_eq_true rfl) [(0, .ref x), (1, .int i1), (2, .int i2), (3, .int i3)] rfl rfl (fun p e s m args below meth c A H0 Q C ret thr => ?_)
  refine xr_aload_n (n := 1) (j := 0) C dX6_bend_0 rfl rfl ?_
  refine xr_get (n := 4) C 0 rfl rfl 2 (by decide) in_X6 u_291 rfl (v := .ref xz) rfl dX6_bend_1 rfl ?_
  refine xr_iload_n (n := 5) (j := 1) C dX6_bend_4 rfl rfl ?_
  refine xr_iload_n (n := 6) (j := 2) C dX6_bend_5 rfl rfl ?_
  obtain ⟨x_1, hx_1, hR⟩ := yf_b hR
  refine xr_callVp (n := 9) (As := [.int i1, .int i2]) (rest := []) C (kX3_has l D cy (z := xz) (zv := xzv) (zr := xzr) (zc := xzc) (zs := xzs) (i1 := i1) (i2 := i2) hx_1) mX3_has u_836 u_837 u_838 1 rfl rfl 4 [1] [0, 2, 3] rfl (by decide +kernel) rfl rfl rfl rfl (Nat.le_of_ble_eq_true rfl) (Nat.le_of_ble_eq_true rfl) (Nat.le_of_ble_eq_true rfl) (Nat.le_of_ble_eq_true rfl) (Nat.le_of_ble_eq_true rfl) dX6_bend_6 rfl (fun _ _ hp => hp.2) (fun v_2 hp_4 => ?_)
  obtain ⟨rfl, -⟩ := hp_4
  refine xr_st (st' := [.int x_1]) rfl ?_
  refine xr_if_ne (tgt := 22) (n := 12) C dX6_bend_9 rfl rfl (fun c_5 => ?_) (fun c_5 => ?_)
  · replace hR := yf_f c_5 hR
    refine xr_iload_n (n := 23) (j := 3) C dX6_bend_22 rfl rfl ?_
    refine xr_sipush (n := 26) (v := -999) C dX6_bend_23 rfl rfl ?_
    refine xr_icmp_lt (tgt := 36) (n := 29) C dX6_bend_26 rfl rfl (fun c_6 => ?_) (fun c_6 => ?_)
    · replace hR := yf_t c_6 hR
      obtain rfl := Option.some.inj hR
      exact thr "java/lang/IllegalArgumentException" "a result is bent by -999 to 999" 47 174 51 yt_X6_174 ⟨_, rfl, rfl, rfl⟩ (Nat.le_of_ble_eq_true rfl) (Nat.le_of_ble_eq_true rfl) (Nat.le_of_ble_eq_true rfl) (Nat.le_of_ble_eq_true rfl) dX6_bend_36 dX6_bend_39 dX6_bend_40 dX6_bend_42 dX6_bend_45
    · replace hR := yf_f c_6 hR
      refine xr_iload_n (n := 30) (j := 3) C dX6_bend_29 rfl rfl ?_
      refine xr_sipush (n := 33) (v := 999) C dX6_bend_30 rfl rfl ?_
      refine xr_icmp_le (tgt := 46) (n := 36) C dX6_bend_33 rfl rfl (fun c_7 => ?_) (fun c_7 => ?_)
      · replace hR := yf_t c_7 hR
        refine xr_aload_n (n := 47) (j := 0) C dX6_bend_46 rfl rfl ?_
        refine xr_get (n := 50) C 0 rfl rfl 2 (by decide) in_X6 u_291 rfl (v := .ref xz) rfl dX6_bend_47 rfl ?_
        refine xr_getN (n := 53) C 1 rfl rfl 0 (by decide) in_X3 RX6 (List.mem_of_getElem? (i := 19) rfl) rfl (v := .ref xzv) rfl dX6_bend_50 rfl ?_
        refine xr_iload_n (n := 54) (j := 1) C dX6_bend_53 rfl rfl ?_
        refine xr_iload_n (n := 55) (j := 2) C dX6_bend_54 rfl rfl ?_
        obtain ⟨x_8, hx_8, hR⟩ := yf_b hR
        refine xr_callVp (n := 58) (As := [.int i1, .int i2]) (rest := []) C (kX4_get l D cy (h := xzv) (hn := xzvn) (hf := xzvf) (row := i1) (col := i2) hx_8) mX4_get u_492 u_341 u_342 2 rfl rfl 4 [2, 3] [0, 1] rfl (by decide +kernel) rfl rfl rfl rfl (Nat.le_of_ble_eq_true rfl) (Nat.le_of_ble_eq_true rfl) (Nat.le_of_ble_eq_true rfl) (Nat.le_of_ble_eq_true rfl) (Nat.le_of_ble_eq_true rfl) dX6_bend_55 rfl (fun _ _ hp => hp.2) (fun v_9 hp_11 => ?_)
        obtain ⟨rfl, -⟩ := hp_11
        refine xr_st (st' := [.int x_8]) rfl ?_
        refine xr_iload_n (n := 59) (j := 3) C dX6_bend_58 rfl rfl ?_
        refine xr_iadd (n := 60) C dX6_bend_59 rfl ?_
        refine xr_istore (n := 62) C [(4, .int (x_8 + i3)), (0, .ref x), (1, .int i1), (2, .int i2), (3, .int i3)] dX6_bend_60 (by decide) rfl rfl ?_
        refine xr_aload_n (n := 63) (j := 1) C dX6_bend_62 rfl rfl ?_
        refine xr_get (n := 66) C 0 rfl rfl 2 (by decide) in_X6 u_291 rfl (v := .ref xz) rfl dX6_bend_63 rfl ?_
        refine xr_getN (n := 69) C 1 rfl rfl 0 (by decide) in_X3 RX6 (List.mem_of_getElem? (i := 19) rfl) rfl (v := .ref xzv) rfl dX6_bend_66 rfl ?_
        refine xr_iload_n (n := 70) (j := 2) C dX6_bend_69 rfl rfl ?_
        refine xr_iload_n (n := 71) (j := 3) C dX6_bend_70 rfl rfl ?_
        refine xr_iload (n := 73) (j := 0) C dX6_bend_71 rfl rfl ?_
        obtain ⟨x_12, hx_12, hR⟩ := yf_b hR
        refine xr_callV (n := 76) (As := [.int i1, .int i2, .int (x_8 + i3)]) (rest := []) C (kX4_set l D cy (h := xzv) (hn := xzvn) (hf := xzvf) (row := i1) (col := i2) (num := x_8 + i3) hx_12) mX4_set u_679 u_680 u_681 2 rfl rfl 4 [2, 3] [0, 1] rfl (by decide +kernel) rfl rfl rfl rfl (Nat.le_of_ble_eq_true rfl) (Nat.le_of_ble_eq_true rfl) (Nat.le_of_ble_eq_true rfl) (Nat.le_of_ble_eq_true rfl) (Nat.le_of_ble_eq_true rfl) dX6_bend_73 rfl (fun v_13 u_14 hp_15 => ?_)
        obtain ⟨rfl, rfl⟩ := hp_15
        refine xr_perm C 4 [2, 3, 0, 1] [] [[(x, .inr (8, [.ref xj, .ref xw, .ref xz, .ref xo, .ref xy, .ref xt]))], [(xz, .inr (5, [.ref xzv, .int xzr, .int xzc, .int xzs]))], [(xzv, .inr (6, [.ref xzvn]))], [(xzvn, .inl (cy 1, 81, .inl x_12))]] rfl (by decide +kernel) rfl ?_
        refine xr_iload (n := 78) (j := 0) C dX6_bend_76 rfl rfl ?_
        obtain rfl := Option.some.inj hR
        exact ret (x_8 + i3) ⟨_, rfl, rfl, rfl⟩ (Nat.le_of_ble_eq_true rfl) (Nat.le_of_ble_eq_true rfl) dX6_bend_78
      · replace hR := yf_f c_7 hR
        obtain rfl := Option.some.inj hR
        exact thr "java/lang/IllegalArgumentException" "a result is bent by -999 to 999" 47 174 51 yt_X6_174 ⟨_, rfl, rfl, rfl⟩ (Nat.le_of_ble_eq_true rfl) (Nat.le_of_ble_eq_true rfl) (Nat.le_of_ble_eq_true rfl) (Nat.le_of_ble_eq_true rfl) dX6_bend_36 dX6_bend_39 dX6_bend_40 dX6_bend_42 dX6_bend_45
  · replace hR := yf_t c_5 hR
    obtain rfl := Option.some.inj hR
    exact thr "java/lang/IndexOutOfBoundsException" "there is no such result" 69 172 73 yt_X6_172 ⟨_, rfl, rfl, rfl⟩ (Nat.le_of_ble_eq_true rfl) (Nat.le_of_ble_eq_true rfl) (Nat.le_of_ble_eq_true rfl) (Nat.le_of_ble_eq_true rfl) dX6_bend_12 dX6_bend_15 dX6_bend_16 dX6_bend_18 dX6_bend_21
theorem dX6_check_0 : decode cX6_check 0 = .ok (.aload_n 0, 1) := by decide +kernel
theorem dX6_check_1 : decode cX6_check 1 = .ok (.getfield 26, 3) := by decide +kernel
theorem dX6_check_4 : decode cX6_check 4 = .ok (.getfield 179, 3) := by decide +kernel
theorem dX6_check_7 : decode cX6_check 7 = .ok (.ifCond .eq 13, 3) := by decide +kernel
theorem dX6_check_10 : decode cX6_check 10 = .ok (.aload_n 0, 1) := by decide +kernel
theorem dX6_check_11 : decode cX6_check 11 = .ok (.getfield 26, 3) := by decide +kernel
theorem dX6_check_14 : decode cX6_check 14 = .ok (.getfield 182, 3) := by decide +kernel
theorem dX6_check_17 : decode cX6_check 17 = .ok (.ifCond .ne 13, 3) := by decide +kernel
theorem dX6_check_20 : decode cX6_check 20 = .ok (.new 110, 3) := by decide +kernel
theorem dX6_check_23 : decode cX6_check 23 = .ok (.dup, 1) := by decide +kernel
theorem dX6_check_24 : decode cX6_check 24 = .ok (.ldc 185, 2) := by decide +kernel
theorem dX6_check_26 : decode cX6_check 26 = .ok (.invokespecial 114, 3) := by decide +kernel
theorem dX6_check_29 : decode cX6_check 29 = .ok (.athrow, 1) := by decide +kernel
theorem dX6_check_30 : decode cX6_check 30 = .ok (.aload_n 0, 1) := by decide +kernel
theorem dX6_check_31 : decode cX6_check 31 = .ok (.getfield 26, 3) := by decide +kernel
theorem dX6_check_34 : decode cX6_check 34 = .ok (.invokevirtual 187, 3) := by decide +kernel
theorem dX6_check_37 : decode cX6_check 37 = .ok (.ireturn, 1) := by decide +kernel
def fX6_check (xzr : Int32) (xzc : Int32) (xzs : Int32) (xzvf : Nat → Int32) : Option (Nat ⊕ (Int32 × (Nat → Int32))) := (if xzr = 0 then some (.inl 2) else (if xzs = 0 then some (.inl 2) else ((fX3_judge xzr xzc xzvf).bind fun x_3 => some (.inr (x_3.1, x_3.2)))))
abbrev hX6_check : Cond := .code yX6_check cX6_check 1 (some .int)
theorem mX6_check : yM yX6_check hX6_check 0 := ⟨u_848, u_57, by decide +kernel, by decide +kernel, by decide +kernel⟩
set_option maxHeartbeats 4000000 in
set_option maxRecDepth 100000 in
theorem kX6_check (l : Launch) (D : va_G) (cy : Nat → ClassId) (hl0 : l.stackTraces = false) (x : Nat) (xj : Nat) (xw : Nat) (xz : Nat) (xo : Nat) (xy : Nat) (xt : Nat) (xzv : Nat) (xzr : Int32) (xzc : Int32) (xzs : Int32) (xzvn : Nat) (xzvf : Nat → Int32) {res : Nat ⊕ (Int32 × (Nat → Int32))} (hR : fX6_check xzr xzc xzs xzvf = some res) : YX l D cy yX6_check hX6_check 6 1 6 [.ref x] [[(x, .inr (8, [.ref xj, .ref xw, .ref xz, .ref xo, .ref xy, .ref xt]))], [(xz, .inr (5, [.ref xzv, .int xzr, .int xzc, .int xzs]))], [(xzv, .inr (6, [.ref xzvn]))], [(xzvn, .inl (cy 1, 81, .inl xzvf))]] (fun v u => ∃ r, res = .inr r ∧ v = some (.int r.1) ∧ u = [[(x, .inr (8, [.ref xj, .ref xw, .ref xz, .ref xo, .ref xy, .ref xt]))], [(xz, .inr (5, [.ref xzv, .int xzr, .int xzc, .int xzs]))], [(xzv, .inr (6, [.ref xzvn]))], [(xzvn, .inl (cy 1, 81, .inl r.2))]]) (fun E u => ∃ r, res = .inl r ∧ E = yE r ∧ u = [[(x, .inr (8, [.ref xj, .ref xw, .ref xz, .ref xo, .ref xy, .ref xt]))], [(xz, .inr (5, [.ref xzv, .int xzr, .int xzc, .int xzs]))], [(xzv, .inr (6, [.ref xzvn]))], [(xzvn, .inl (cy 1, 81, .inl xzvf))]]) := by
  unfold fX6_check at hR
  refine YX.ofI (cc := cX6_check) (maxL := 1) (ret := (some .int)) hl0 (by decide +kernel) rfl (Nat.le_of_ble_eq_true rfl) [(0, .ref x)] rfl rfl (fun p e s m args below meth c A H0 Q C ret thr => ?_)
  refine xr_aload_n (n := 1) (j := 0) C dX6_check_0 rfl rfl ?_
  refine xr_get (n := 4) C 0 rfl rfl 2 (by decide) in_X6 u_291 rfl (v := .ref xz) rfl dX6_check_1 rfl ?_
  refine xr_getN (n := 7) C 1 rfl rfl 1 (by decide) in_X3 RX6 (List.mem_of_getElem? (i := 21) rfl) rfl (v := .int xzr) rfl dX6_check_4 rfl ?_
  refine xr_if_eq (tgt := 20) (n := 10) C dX6_check_7 rfl rfl (fun c_1 => ?_) (fun c_1 => ?_)
  · replace hR := yf_t c_1 hR
    obtain rfl := Option.some.inj hR
    exact thr "java/lang/IllegalStateException" "there are no results of a checked work" 110 185 114 yt_X6_185 ⟨_, rfl, rfl, rfl⟩ (Nat.le_of_ble_eq_true rfl) (Nat.le_of_ble_eq_true rfl) (Nat.le_of_ble_eq_true rfl) (Nat.le_of_ble_eq_true rfl) dX6_check_20 dX6_check_23 dX6_check_24 dX6_check_26 dX6_check_29
  · replace hR := yf_f c_1 hR
    refine xr_aload_n (n := 11) (j := 0) C dX6_check_10 rfl rfl ?_
    refine xr_get (n := 14) C 0 rfl rfl 2 (by decide) in_X6 u_291 rfl (v := .ref xz) rfl dX6_check_11 rfl ?_
    refine xr_getN (n := 17) C 1 rfl rfl 3 (by decide) in_X3 RX6 (List.mem_of_getElem? (i := 23) rfl) rfl (v := .int xzs) rfl dX6_check_14 rfl ?_
    refine xr_if_ne (tgt := 30) (n := 20) C dX6_check_17 rfl rfl (fun c_2 => ?_) (fun c_2 => ?_)
    · replace hR := yf_f c_2 hR
      refine xr_aload_n (n := 31) (j := 0) C dX6_check_30 rfl rfl ?_
      refine xr_get (n := 34) C 0 rfl rfl 2 (by decide) in_X6 u_291 rfl (v := .ref xz) rfl dX6_check_31 rfl ?_
      obtain ⟨x_3, hx_3, hR⟩ := yf_b hR
      refine xr_callV (n := 37) (As := []) (rest := []) C (kX3_judge l D cy (z := xz) (zv := xzv) (zr := xzr) (zc := xzc) (zs := xzs) (zvn := xzvn) (zvf := xzvf) hx_3) mX3_judge u_850 u_851 u_852 1 rfl rfl 4 [1, 2, 3] [0] rfl (by decide +kernel) rfl rfl rfl rfl (Nat.le_of_ble_eq_true rfl) (Nat.le_of_ble_eq_true rfl) (Nat.le_of_ble_eq_true rfl) (Nat.le_of_ble_eq_true rfl) (Nat.le_of_ble_eq_true rfl) dX6_check_34 rfl (fun v_4 u_5 hp_6 => ?_)
      obtain ⟨rfl, rfl⟩ := hp_6
      refine xr_perm C 4 [3, 0, 1, 2] [] [[(x, .inr (8, [.ref xj, .ref xw, .ref xz, .ref xo, .ref xy, .ref xt]))], [(xz, .inr (5, [.ref xzv, .int xzr, .int xzc, .int xzs]))], [(xzv, .inr (6, [.ref xzvn]))], [(xzvn, .inl (cy 1, 81, .inl x_3.2))]] rfl (by decide +kernel) rfl ?_
      refine xr_st (st' := [.int x_3.1]) rfl ?_
      obtain rfl := Option.some.inj hR
      exact ret x_3.1 ⟨_, rfl, rfl, rfl⟩ (Nat.le_of_ble_eq_true rfl) (Nat.le_of_ble_eq_true rfl) dX6_check_37
    · replace hR := yf_t c_2 hR
      obtain rfl := Option.some.inj hR
      exact thr "java/lang/IllegalStateException" "there are no results of a checked work" 110 185 114 yt_X6_185 ⟨_, rfl, rfl, rfl⟩ (Nat.le_of_ble_eq_true rfl) (Nat.le_of_ble_eq_true rfl) (Nat.le_of_ble_eq_true rfl) (Nat.le_of_ble_eq_true rfl) dX6_check_20 dX6_check_23 dX6_check_24 dX6_check_26 dX6_check_29
