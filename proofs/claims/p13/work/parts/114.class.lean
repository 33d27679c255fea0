theorem u_477 : Cond.methodLink RX6 197 yX6_cellNumber ∈ yU := yu_tables_1_2 181 (by decide +kernel) (by decide +kernel)
theorem u_479 : Cond.instanceMethod yX6_cellNumber ∈ yU := yu_tables_1_2 183 (by decide +kernel) (by decide +kernel)
theorem u_15 : Cond.selects RX6 yX6_cellNumber yX6_cellNumber ∈ yU := yu 15 (by decide +kernel) (by decide +kernel)
theorem u_882 : Cond.code yX6_ofCell cX6_ofCell 4 (some .int) ∈ yU := yu_tables_1_4 106 (by decide +kernel) (by decide +kernel)
theorem u_890 : Cond.code yX6_result cX6_result 3 (some .int) ∈ yU := yu_tables_1_4 114 (by decide +kernel) (by decide +kernel)
theorem u_518 : Cond.methodLink RX6 201 yX1_rowsInAll ∈ yU := yu_tables_1_2 222 (by decide +kernel) (by decide +kernel)
theorem u_519 : Cond.methodLink RX6 204 yX1_columnsInAll ∈ yU := yu_tables_1_2 223 (by decide +kernel) (by decide +kernel)
theorem u_520 : Cond.methodLink RX6 209 yX1_plainOf ∈ yU := yu_tables_1_2 224 (by decide +kernel) (by decide +kernel)
theorem u_521 : Cond.instanceMethod yX1_plainOf ∈ yU := yu_tables_1_2 225 (by decide +kernel) (by decide +kernel)
theorem u_522 : Cond.selects RX1 yX1_plainOf yX1_plainOf ∈ yU := yu_tables_1_2 226 (by decide +kernel) (by decide +kernel)
theorem u_897 : Cond.code yX6_plain cX6_plain 3 (some .int) ∈ yU := yu_tables_1_4 121 (by decide +kernel) (by decide +kernel)
theorem u_408 : Cond.methodLink RX6 235 yX6_beatsOn ∈ yU := yu_tables_1_2 112 (by decide +kernel) (by decide +kernel)
theorem u_410 : Cond.instanceMethod yX6_beatsOn ∈ yU := yu_tables_1_2 114 (by decide +kernel) (by decide +kernel)
theorem u_8 : Cond.selects RX6 yX6_beatsOn yX6_beatsOn ∈ yU := yu 8 (by decide +kernel) (by decide +kernel)
theorem u_1178 : Cond.code yX6_beats cX6_beats 3 (some .int) ∈ yU := yu_tables_1_5 162 (by decide +kernel) (by decide +kernel)
theorem u_542 : Cond.methodLink RX6 240 yX6_bestNumber ∈ yU := yu_tables_1_3 6 (by decide +kernel) (by decide +kernel)
theorem u_544 : Cond.instanceMethod yX6_bestNumber ∈ yU := yu_tables_1_3 8 (by decide +kernel) (by decide +kernel)
theorem u_18 : Cond.selects RX6 yX6_bestNumber yX6_bestNumber ∈ yU := yu 18 (by decide +kernel) (by decide +kernel)
theorem u_1186 : Cond.code yX6_best cX6_best 2 (some .int) ∈ yU := yu_tables_1_5 170 (by decide +kernel) (by decide +kernel)
theorem u_386 : Cond.methodLink RX6 243 yX6_savedBeats ∈ yU := yu_tables_1_2 90 (by decide +kernel) (by decide +kernel)
theorem u_388 : Cond.instanceMethod yX6_savedBeats ∈ yU := yu_tables_1_2 92 (by decide +kernel) (by decide +kernel)
theorem u_5 : Cond.selects RX6 yX6_savedBeats yX6_savedBeats ∈ yU := yu 5 (by decide +kernel) (by decide +kernel)
theorem u_311 : Cond.code yX6_saved cX6_saved 1 (some .int) ∈ yU := yu_tables_1_2 15 (by decide +kernel) (by decide +kernel)
theorem yt_X6_195 : yT RX6 "java/lang/IllegalArgumentException" "what is 0 to 3" 47 195 51 := ⟨by decide +kernel, u_571, u_70, by decide +kernel, ytb_0⟩
theorem yt_X6_207 : yT RX6 "java/lang/IndexOutOfBoundsException" "there is no such row or column" 69 207 73 := ⟨by decide +kernel, u_659, u_71, by decide +kernel, ytb_1⟩
theorem yt_X6_229 : yT RX6 "java/lang/IllegalArgumentException" "a set of rows or columns is 1 to 31" 47 229 51 := ⟨by decide +kernel, u_571, u_70, by decide +kernel, ytb_0⟩
theorem yt_X6_238 : yT RX6 "java/lang/IllegalArgumentException" "what is 0 to 4" 47 238 51 := ⟨by decide +kernel, u_571, u_70, by decide +kernel, ytb_0⟩
theorem dX6_ofCell_0 : decode cX6_ofCell 0 = .ok (.iload_n 1, 1) := by decide +kernel
theorem dX6_ofCell_1 : decode cX6_ofCell 1 = .ok (.iload_n 2, 1) := by decide +kernel
theorem dX6_ofCell_2 : decode cX6_ofCell 2 = .ok (.invokestatic 115, 3) := by decide +kernel
theorem dX6_ofCell_5 : decode cX6_ofCell 5 = .ok (.ifCond .ne 13, 3) := by decide +kernel
theorem dX6_ofCell_8 : decode cX6_ofCell 8 = .ok (.new 69, 3) := by decide +kernel
theorem dX6_ofCell_11 : decode cX6_ofCell 11 = .ok (.dup, 1) := by decide +kernel
theorem dX6_ofCell_12 : decode cX6_ofCell 12 = .ok (.ldc 119, 2) := by decide +kernel
theorem dX6_ofCell_14 : decode cX6_ofCell 14 = .ok (.invokespecial 73, 3) := by decide +kernel
theorem dX6_ofCell_17 : decode cX6_ofCell 17 = .ok (.athrow, 1) := by decide +kernel
theorem dX6_ofCell_18 : decode cX6_ofCell 18 = .ok (.iload_n 3, 1) := by decide +kernel
theorem dX6_ofCell_19 : decode cX6_ofCell 19 = .ok (.ifCond .lt 8, 3) := by decide +kernel
theorem dX6_ofCell_22 : decode cX6_ofCell 22 = .ok (.iload_n 3, 1) := by decide +kernel
theorem dX6_ofCell_23 : decode cX6_ofCell 23 = .ok (.iconst 3, 1) := by decide +kernel
theorem dX6_ofCell_24 : decode cX6_ofCell 24 = .ok (.if_icmp .le 13, 3) := by decide +kernel
theorem dX6_ofCell_27 : decode cX6_ofCell 27 = .ok (.new 47, 3) := by decide +kernel
theorem dX6_ofCell_30 : decode cX6_ofCell 30 = .ok (.dup, 1) := by decide +kernel
theorem dX6_ofCell_31 : decode cX6_ofCell 31 = .ok (.ldc 195, 2) := by decide +kernel
theorem dX6_ofCell_33 : decode cX6_ofCell 33 = .ok (.invokespecial 51, 3) := by decide +kernel
theorem dX6_ofCell_36 : decode cX6_ofCell 36 = .ok (.athrow, 1) := by decide +kernel
theorem dX6_ofCell_37 : decode cX6_ofCell 37 = .ok (.aload_n 0, 1) := by decide +kernel
theorem dX6_ofCell_38 : decode cX6_ofCell 38 = .ok (.iload_n 1, 1) := by decide +kernel
theorem dX6_ofCell_39 : decode cX6_ofCell 39 = .ok (.iload_n 2, 1) := by decide +kernel
theorem dX6_ofCell_40 : decode cX6_ofCell 40 = .ok (.iload_n 3, 1) := by decide +kernel
theorem dX6_ofCell_41 : decode cX6_ofCell 41 = .ok (.invokevirtual 197, 3) := by decide +kernel
theorem dX6_ofCell_44 : decode cX6_ofCell 44 = .ok (.ireturn, 1) := by decide +kernel
def fX6_ofCell (xwb : Int32) (xwk : Int32) (xwuf : Nat → Int32) (xwmf : Nat → Int32) (xofr : Int32) (xofc : Int32) (xobt : Int32) (xobl : Int32) (xoy0 : Int32) (xoy1 : Int32) (xoy2 : Int32) (xoy3 : Int32) (xoy4 : Int32) (xoy5 : Int32) (xoy6 : Int32) (i1 : Int32) (i2 : Int32) (i3 : Int32) : Option (Nat ⊕ Int32) := ((fX6_isOnMesh i1 i2).bind fun x_1 => (if x_1 = 0 then some (.inl 1) else (if i3 < 0 then some (.inl 0) else (if i3 ≤ 3 then ((fX6_cellNumber xwb xwk xwuf xwmf xofr xofc xobt xobl xoy0 xoy1 xoy2 xoy3 xoy4 xoy5 xoy6 i1 i2 i3).bind fun x_8 => some (.inr x_8)) else some (.inl 0)))))
abbrev hX6_ofCell : Cond := .code yX6_ofCell cX6_ofCell 4 (some .int)
theorem mX6_ofCell : yM yX6_ofCell hX6_ofCell 3 := ⟨u_882, u_57, by decide +kernel, by decide +kernel, by decide +kernel⟩
set_option maxHeartbeats 4000000 in
set_option maxRecDepth 100000 in
theorem kX6_ofCell (l : Launch) (D : va_G) (cy : Nat → ClassId) (hl0 : l.stackTraces = false) (x : Nat) (xj : Nat) (xw : Nat) (xz : Nat) (xo : Nat) (xy : Nat) (xt : Nat) (xwu : Nat) (xwm : Nat) (xwb : Int32) (xwk : Int32) (xwun : Nat) (xwuf : Nat → Int32) (xwmn : Nat) (xwmf : Nat → Int32) (xoj : Nat) (xoy : Nat) (xosk : Int32) (xoti : Int32) (xofr : Int32) (xofc : Int32) (xobt : Int32) (xobl : Int32) (xobe : Int32) (xose : Int32) (xotk : Int32) (xoy0 : Int32) (xoy1 : Int32) (xoy2 : Int32) (xoy3 : Int32) (xoy4 : Int32) (xoy5 : Int32) (xoy6 : Int32) (xoy7 : Int32) (xoy8 : Int32) (xoy9 : Int32) (i1 : Int32) (i2 : Int32) (i3 : Int32) {res : Nat ⊕ Int32} (hR : fX6_ofCell xwb xwk xwuf xwmf xofr xofc xobt xobl xoy0 xoy1 xoy2 xoy3 xoy4 xoy5 xoy6 i1 i2 i3 = some res) : YX l D cy yX6_ofCell hX6_ofCell 6 1 6 [.ref x, .int i1, .int i2, .int i3] [[(x, .inr (8, [.ref xj, .ref xw, .ref xz, .ref xo, .ref xy, .ref xt]))], [(xw, .inr (2, [.ref xwu, .ref xwm, .int xwb, .int xwk]))], [(xwu, .inr (6, [.ref xwun]))], [(xwun, .inl (cy 1, 81, .inl xwuf))], [(xwm, .inr (6, [.ref xwmn]))], [(xwmn, .inl (cy 1, 81, .inl xwmf))], [(xo, .inr (7, [.ref xoj, .ref xoy, .int xosk, .int xoti, .int xofr, .int xofc, .int xobt, .int xobl, .int xobe, .int xose, .int xotk]))], [(xoy, .inr (4, [.int xoy0, .int xoy1, .int xoy2, .int xoy3, .int xoy4, .int xoy5, .int xoy6, .int xoy7, .int xoy8, .int xoy9]))]] (fun v u => ∃ r, res = .inr r ∧ v = some (.int r) ∧ u = [[(x, .inr (8, [.ref xj, .ref xw, .ref xz, .ref xo, .ref xy, .ref xt]))], [(xw, .inr (2, [.ref xwu, .ref xwm, .int xwb, .int xwk]))], [(xwu, .inr (6, [.ref xwun]))], [(xwun, .inl (cy 1, 81, .inl xwuf))], [(xwm, .inr (6, [.ref xwmn]))], [(xwmn, .inl (cy 1, 81, .inl xwmf))], [(xo, .inr (7, [.ref xoj, .ref xoy, .int xosk, .int xoti, .int xofr, .int xofc, .int xobt, .int xobl, .int xobe, .int xose, .int xotk]))], [(xoy, .inr (4, [.int xoy0, .int xoy1, .int xoy2, .int xoy3, .int xoy4, .int xoy5, .int xoy6, .int xoy7, .int xoy8, .int xoy9]))]]) (fun E u => ∃ r, res = .inl r ∧ E = yE r ∧ u = [[(x, .inr (8, [.ref xj, .ref xw, .ref xz, .ref xo, .ref xy, .ref xt]))], [(xw, .inr (2, [.ref xwu, .ref xwm, .int xwb, .int xwk]))], [(xwu, .inr (6, [.ref xwun]))], [(xwun, .inl (cy 1, 81, .inl xwuf))], [(xwm, .inr (6, [.ref xwmn]))], [(xwmn, .inl (cy 1, 81, .inl xwmf))], [(xo, .inr (7, [.ref xoj, .ref xoy, .int xosk, .int xoti, .int xofr, .int xofc, .int xobt, .int xobl, .int xobe, .int xose, .int xotk]))], [(xoy, .inr (4, [.int xoy0, .int xoy1, .int xoy2, .int xoy3, .int xoy4, .int xoy5, .int xoy6, .int xoy7, .int xoy8, .int xoy9]))]]) := by
  unfold fX6_ofCell at hR
  refine YX.ofI (cc := cX6_ofCell) (maxL := 4) (ret := (some .int)) hl0 (by decide +kernel) rfl (Nat.le_of_ble_eq_true rfl) [(0, .ref x), (1, .int i1), (2, .int i2), (3, .int i3)] rfl rfl (fun p e s m args below meth c A H0 Q C ret thr => ?_)
  refine xr_iload_n (n := 1) (j := 1) C dX6_ofCell_0 rfl rfl ?_
  refine xr_iload_n (n := 2) (j := 2) C dX6_ofCell_1 rfl rfl ?_
  obtain ⟨x_1, hx_1, hR⟩ := yf_b hR
  refine xr_callSp (n := 5) (As := [.int i1, .int i2]) (rest := []) C (kX6_isOnMesh l D cy (i1 := i1) (i2 := i2) hx_1) mX6_isOnMesh u_730 u_731 8 [] [0, 1, 2, 3, 4, 5, 6, 7] rfl (by decide +kernel) rfl rfl rfl rfl (Nat.le_of_ble_eq_true rfl) (Nat.le_of_ble_eq_true rfl) (Nat.le_of_ble_eq_true rfl) (Nat.le_of_ble_eq_true rfl) (Nat.le_of_ble_eq_true rfl) dX6_ofCell_2 rfl (fun _ _ hp => hp.2) (fun v_2 hp_4 => ?_)
  obtain ⟨rfl, -⟩ := hp_4
  refine xr_st (st' := [.int x_1]) rfl ?_
  refine xr_if_ne (tgt := 18) (n := 8) C dX6_ofCell_5 rfl rfl (fun c_5 => ?_) (fun c_5 => ?_)
  · replace hR := yf_f c_5 hR
    refine xr_iload_n (n := 19) (j := 3) C dX6_ofCell_18 rfl rfl ?_
    refine xr_if_lt (tgt := 27) (n := 22) C dX6_ofCell_19 rfl rfl (fun c_6 => ?_) (fun c_6 => ?_)
    · replace hR := yf_t c_6 hR
      obtain rfl := Option.some.inj hR
      exact thr "java/lang/IllegalArgumentException" "what is 0 to 3" 47 195 51 yt_X6_195 ⟨_, rfl, rfl, rfl⟩ (Nat.le_of_ble_eq_true rfl) (Nat.le_of_ble_eq_true rfl) (Nat.le_of_ble_eq_true rfl) (Nat.le_of_ble_eq_true rfl) dX6_ofCell_27 dX6_ofCell_30 dX6_ofCell_31 dX6_ofCell_33 dX6_ofCell_36
    · replace hR := yf_f c_6 hR
      refine xr_iload_n (n := 23) (j := 3) C dX6_ofCell_22 rfl rfl ?_
      refine xr_iconst (n := 24) (v := 3) C dX6_ofCell_23 rfl rfl ?_
      refine xr_icmp_le (tgt := 37) (n := 27) C dX6_ofCell_24 rfl rfl (fun c_7 => ?_) (fun c_7 => ?_)
      · replace hR := yf_t c_7 hR
        refine xr_aload_n (n := 38) (j := 0) C dX6_ofCell_37 rfl rfl ?_
        refine xr_iload_n (n := 39) (j := 1) C dX6_ofCell_38 rfl rfl ?_
        refine xr_iload_n (n := 40) (j := 2) C dX6_ofCell_39 rfl rfl ?_
        refine xr_iload_n (n := 41) (j := 3) C dX6_ofCell_40 rfl rfl ?_
        obtain ⟨x_8, hx_8, hR⟩ := yf_b hR
        refine xr_callVp (n := 44) (As := [.int i1, .int i2, .int i3]) (rest := []) C (kX6_cellNumber l D cy (x := x) (xj := xj) (xw := xw) (xz := xz) (xo := xo) (xy := xy) (xt := xt) (xwu := xwu) (xwm := xwm) (xwb := xwb) (xwk := xwk) (xwun := xwun) (xwuf := xwuf) (xwmn := xwmn) (xwmf := xwmf) (xoj := xoj) (xoy := xoy) (xosk := xosk) (xoti := xoti) (xofr := xofr) (xofc := xofc) (xobt := xobt) (xobl := xobl) (xobe := xobe) (xose := xose) (xotk := xotk) (xoy0 := xoy0) (xoy1 := xoy1) (xoy2 := xoy2) (xoy3 := xoy3) (xoy4 := xoy4) (xoy5 := xoy5) (xoy6 := xoy6) (xoy7 := xoy7) (xoy8 := xoy8) (xoy9 := xoy9) (i1 := i1) (i2 := i2) (i3 := i3) hx_8) mX6_cellNumber u_477 u_479 u_15 0 rfl rfl 8 [0, 1, 2, 3, 4, 5, 6, 7] [] rfl (by decide +kernel) rfl rfl rfl rfl (Nat.le_of_ble_eq_true rfl) (Nat.le_of_ble_eq_true rfl) (Nat.le_of_ble_eq_true rfl) (Nat.le_of_ble_eq_true rfl) (Nat.le_of_ble_eq_true rfl) dX6_ofCell_41 rfl (fun _ _ hp => hp.2) (fun v_9 hp_11 => ?_)
        obtain ⟨rfl, -⟩ := hp_11
        refine xr_st (st' := [.int x_8]) rfl ?_
        obtain rfl := Option.some.inj hR
        exact ret x_8 ⟨_, rfl, rfl, rfl⟩ (Nat.le_of_ble_eq_true rfl) (Nat.le_of_ble_eq_true rfl) dX6_ofCell_44
      · replace hR := yf_f c_7 hR
        obtain rfl := Option.some.inj hR
        exact thr "java/lang/IllegalArgumentException" "what is 0 to 3" 47 195 51 yt_X6_195 ⟨_, rfl, rfl, rfl⟩ (Nat.le_of_ble_eq_true rfl) (Nat.le_of_ble_eq_true rfl) (Nat.le_of_ble_eq_true rfl) (Nat.le_of_ble_eq_true rfl) dX6_ofCell_27 dX6_ofCell_30 dX6_ofCell_31 dX6_ofCell_33 dX6_ofCell_36
  · replace hR := yf_t c_5 hR
    obtain rfl := Option.some.inj hR
    exact thr "java/lang/IndexOutOfBoundsException" "the mesh has no such cell" 69 119 73 yt_X6_119 ⟨_, rfl, rfl, rfl⟩ (Nat.le_of_ble_eq_true rfl) (Nat.le_of_ble_eq_true rfl) (Nat.le_of_ble_eq_true rfl) (Nat.le_of_ble_eq_true rfl) dX6_ofCell_8 dX6_ofCell_11 dX6_ofCell_12 dX6_ofCell_14 dX6_ofCell_17
theorem dX6_result_0 : decode cX6_result 0 = .ok (.aload_n 0, 1) := by decide +kernel
theorem dX6_result_1 : decode cX6_result 1 = .ok (.getfield 26, 3) := by decide +kernel
theorem dX6_result_4 : decode cX6_result 4 = .ok (.iload_n 1, 1) := by decide +kernel
theorem dX6_result_5 : decode cX6_result 5 = .ok (.iload_n 2, 1) := by decide +kernel
theorem dX6_result_6 : decode cX6_result 6 = .ok (.invokevirtual 169, 3) := by decide +kernel
theorem dX6_result_9 : decode cX6_result 9 = .ok (.ifCond .ne 13, 3) := by decide +kernel
theorem dX6_result_12 : decode cX6_result 12 = .ok (.new 69, 3) := by decide +kernel
theorem dX6_result_15 : decode cX6_result 15 = .ok (.dup, 1) := by decide +kernel
theorem dX6_result_16 : decode cX6_result 16 = .ok (.ldc 172, 2) := by decide +kernel
theorem dX6_result_18 : decode cX6_result 18 = .ok (.invokespecial 73, 3) := by decide +kernel
theorem dX6_result_21 : decode cX6_result 21 = .ok (.athrow, 1) := by decide +kernel
theorem dX6_result_22 : decode cX6_result 22 = .ok (.aload_n 0, 1) := by decide +kernel
theorem dX6_result_23 : decode cX6_result 23 = .ok (.getfield 26, 3) := by decide +kernel
theorem dX6_result_26 : decode cX6_result 26 = .ok (.getfield 176, 3) := by decide +kernel
theorem dX6_result_29 : decode cX6_result 29 = .ok (.iload_n 1, 1) := by decide +kernel
theorem dX6_result_30 : decode cX6_result 30 = .ok (.iload_n 2, 1) := by decide +kernel
theorem dX6_result_31 : decode cX6_result 31 = .ok (.invokevirtual 84, 3) := by decide +kernel
theorem dX6_result_34 : decode cX6_result 34 = .ok (.ireturn, 1) := by decide +kernel
def fX6_result (xzr : Int32) (xzc : Int32) (xzvf : Nat → Int32) (i1 : Int32) (i2 : Int32) : Option (Nat ⊕ Int32) := ((fX3_has xzr xzc i1 i2).bind fun x_1 => (if x_1 = 0 then some (.inl 1) else ((fX4_get xzvf i1 i2).bind fun x_6 => some (.inr x_6))))
abbrev hX6_result : Cond := .code yX6_result cX6_result 3 (some .int)
theorem mX6_result : yM yX6_result hX6_result 2 := ⟨u_890, u_57, by decide +kernel, by decide +kernel, by decide +kernel⟩
set_option maxHeartbeats 4000000 in
set_option maxRecDepth 100000 in
theorem kX6_result (l : Launch) (D : va_G) (cy : Nat → ClassId) (hl0 : l.stackTraces = false) (x : Nat) (xj : Nat) (xw : Nat) (xz : Nat) (xo : Nat) (xy : Nat) (xt : Nat) (xzv : Nat) (xzr : Int32) (xzc : Int32) (xzs : Int32) (xzvn : Nat) (xzvf : Nat → Int32) (i1 : Int32) (i2 : Int32) {res : Nat ⊕ Int32} (hR : fX6_result xzr xzc xzvf i1 i2 = some res) : YX l D cy yX6_result hX6_result 6 1 6 [.ref x, .int i1, .int i2] [[(x, .inr (8, [.ref xj, .ref xw, .ref xz, .ref xo, .ref xy, .ref xt]))], [(xz, .inr (5, [.ref xzv, .int xzr, .int xzc, .int xzs]))], [(xzv, .inr (6, [.ref xzvn]))], [(xzvn, .inl (cy 1, 81, .inl xzvf))]] (fun v u => ∃ r, res = .inr r ∧ v = some (.int r) ∧ u = [[(x, .inr (8, [.ref xj, .ref xw, .ref xz, .ref xo, .ref xy, .ref xt]))], [(xz, .inr (5, [.ref xzv, .int xzr, .int xzc, .int xzs]))], [(xzv, .inr (6, [.ref xzvn]))], [(xzvn, .inl (cy 1, 81, .inl xzvf))]]) (fun E u => ∃ r, res = .inl r ∧ E = yE r ∧ u = [[(x, .inr (8, [.ref xj, .ref xw, .ref xz, .ref xo, .ref xy, .ref xt]))], [(xz, .inr (5, [.ref xzv, .int xzr, .int xzc, .int xzs]))], [(xzv, .inr (6, [.ref xzvn]))], [(xzvn, .inl (cy 1, 81, .inl xzvf))]]) := by
  unfold fX6_result at hR
  refine YX.ofI (cc := cX6_result) (maxL := 3) (ret := (some .int)) hl0 (by decide +kernel) rfl (Nat.le_of_ble_eq_true rfl) [(0, .ref x), (1, .int i1), (2, .int i2)] rfl rfl (fun p e s m args below meth c A H0 Q C ret thr => ?_)
  refine xr_aload_n (n := 1) (j := 0) C dX6_result_0 rfl rfl ?_
  refine xr_get (n := 4) C 0 rfl rfl 2 (by decide) in_X6 u_291 rfl (v := .ref xz) rfl dX6_result_1 rfl ?_
  refine xr_iload_n (n := 5) (j := 1) C dX6_result_4 rfl rfl ?_
  refine xr_iload_n (n := 6) (j := 2) C dX6_result_5 rfl rfl ?_
  obtain ⟨x_1, hx_1, hR⟩ := yf_b hR
  refine xr_callVp (n := 9) (As := [.int i1, .int i2]) (rest := []) C (kX3_has l D cy (z := xz) (zv := xzv) (zr := xzr) (zc := xzc) (zs := xzs) (i1 := i1) (i2 := i2) hx_1) mX3_has u_836 u_837 u_838 1 rfl rfl 4 [1] [0, 2, 3] rfl (by decide +kernel) rfl rfl rfl rfl (Nat.le_of_ble_eq_true rfl) (Nat.le_of_ble_eq_true rfl) (Nat.le_of_ble_eq_true rfl) (Nat.le_of_ble_eq_true rfl) (Nat.le_of_ble_eq_true rfl) dX6_result_6 rfl (fun _ _ hp => hp.2) (fun v_2 hp_4 => ?_)
  obtain ⟨rfl, -⟩ := hp_4
  refine xr_st (st' := [.int x_1]) rfl ?_
  refine xr_if_ne (tgt := 22) (n := 12) C dX6_result_9 rfl rfl (fun c_5 => ?_) (fun c_5 => ?_)
  · replace hR := yf_f c_5 hR
    refine xr_aload_n (n := 23) (j := 0) C dX6_result_22 rfl rfl ?_
    refine xr_get (n := 26) C 0 rfl rfl 2 (by decide) in_X6 u_291 rfl (v := .ref xz) rfl dX6_result_23 rfl ?_
    refine xr_getN (n := 29) C 1 rfl rfl 0 (by decide) in_X3 RX6 (List.mem_of_getElem? (i := 19) rfl) rfl (v := .ref xzv) rfl dX6_result_26 rfl ?_
    refine xr_iload_n (n := 30) (j := 1) C dX6_result_29 rfl rfl ?_
    refine xr_iload_n (n := 31) (j := 2) C dX6_result_30 rfl rfl ?_
    obtain ⟨x_6, hx_6, hR⟩ := yf_b hR
    refine xr_callVp (n := 34) (As := [.int i1, .int i2]) (rest := []) C (kX4_get l D cy (h := xzv) (hn := xzvn) (hf := xzvf) (row := i1) (col := i2) hx_6) mX4_get u_492 u_341 u_342 2 rfl rfl 4 [2, 3] [0, 1] rfl (by decide +kernel) rfl rfl rfl rfl (Nat.le_of_ble_eq_true rfl) (Nat.le_of_ble_eq_true rfl) (Nat.le_of_ble_eq_true rfl) (Nat.le_of_ble_eq_true rfl) (Nat.le_of_ble_eq_true rfl) dX6_result_31 rfl (fun _ _ hp => hp.2) (fun v_7 hp_9 => ?_)
    obtain ⟨rfl, -⟩ := hp_9
    refine xr_st (st' := [.int x_6]) rfl ?_
    obtain rfl := Option.some.inj hR
    exact ret x_6 ⟨_, rfl, rfl, rfl⟩ (Nat.le_of_ble_eq_true rfl) (Nat.le_of_ble_eq_true rfl) dX6_result_34
  · replace hR := yf_t c_5 hR
    obtain rfl := Option.some.inj hR
    exact thr "java/lang/IndexOutOfBoundsException" "there is no such result" 69 172 73 yt_X6_172 ⟨_, rfl, rfl, rfl⟩ (Nat.le_of_ble_eq_true rfl) (Nat.le_of_ble_eq_true rfl) (Nat.le_of_ble_eq_true rfl) (Nat.le_of_ble_eq_true rfl) dX6_result_12 dX6_result_15 dX6_result_16 dX6_result_18 dX6_result_21
theorem dX6_plain_0 : decode cX6_plain 0 = .ok (.iload_n 1, 1) := by decide +kernel
theorem dX6_plain_1 : decode cX6_plain 1 = .ok (.ifCond .lt 29, 3) := by decide +kernel
theorem dX6_plain_4 : decode cX6_plain 4 = .ok (.iload_n 1, 1) := by decide +kernel
theorem dX6_plain_5 : decode cX6_plain 5 = .ok (.aload_n 0, 1) := by decide +kernel
theorem dX6_plain_6 : decode cX6_plain 6 = .ok (.getfield 10, 3) := by decide +kernel
theorem dX6_plain_9 : decode cX6_plain 9 = .ok (.invokevirtual 201, 3) := by decide +kernel
theorem dX6_plain_12 : decode cX6_plain 12 = .ok (.if_icmp .ge 18, 3) := by decide +kernel
theorem dX6_plain_15 : decode cX6_plain 15 = .ok (.iload_n 2, 1) := by decide +kernel
theorem dX6_plain_16 : decode cX6_plain 16 = .ok (.ifCond .lt 14, 3) := by decide +kernel
theorem dX6_plain_19 : decode cX6_plain 19 = .ok (.iload_n 2, 1) := by decide +kernel
theorem dX6_plain_20 : decode cX6_plain 20 = .ok (.aload_n 0, 1) := by decide +kernel
theorem dX6_plain_21 : decode cX6_plain 21 = .ok (.getfield 10, 3) := by decide +kernel
theorem dX6_plain_24 : decode cX6_plain 24 = .ok (.invokevirtual 204, 3) := by decide +kernel
theorem dX6_plain_27 : decode cX6_plain 27 = .ok (.if_icmp .lt 13, 3) := by decide +kernel
theorem dX6_plain_30 : decode cX6_plain 30 = .ok (.new 69, 3) := by decide +kernel
theorem dX6_plain_33 : decode cX6_plain 33 = .ok (.dup, 1) := by decide +kernel
theorem dX6_plain_34 : decode cX6_plain 34 = .ok (.ldc 207, 2) := by decide +kernel
theorem dX6_plain_36 : decode cX6_plain 36 = .ok (.invokespecial 73, 3) := by decide +kernel
theorem dX6_plain_39 : decode cX6_plain 39 = .ok (.athrow, 1) := by decide +kernel
theorem dX6_plain_40 : decode cX6_plain 40 = .ok (.aload_n 0, 1) := by decide +kernel
theorem dX6_plain_41 : decode cX6_plain 41 = .ok (.getfield 10, 3) := by decide +kernel
theorem dX6_plain_44 : decode cX6_plain 44 = .ok (.iload_n 1, 1) := by decide +kernel
theorem dX6_plain_45 : decode cX6_plain 45 = .ok (.iload_n 2, 1) := by decide +kernel
theorem dX6_plain_46 : decode cX6_plain 46 = .ok (.invokevirtual 209, 3) := by decide +kernel
theorem dX6_plain_49 : decode cX6_plain 49 = .ok (.ireturn, 1) := by decide +kernel
def fX6_plain (xjr : Int32) (xjk : Int32) (xjc : Int32) (xjg : Int32) (xjs : Int32) (xjaf : Nat → Int32) (xjbf : Nat → Int32) (i1 : Int32) (i2 : Int32) : Option (Nat ⊕ Int32) := (if i1 < 0 then some (.inl 1) else ((fX1_rowsInAll xjr xjs).bind fun x_2 => (if x_2 ≤ i1 then some (.inl 1) else (if i2 < 0 then some (.inl 1) else ((fX1_columnsInAll xjc xjs).bind fun x_8 => (if i2 < x_8 then ((fX1_plainOf xjr xjk xjc xjg xjaf xjbf i1 i2).bind fun x_13 => some (.inr x_13)) else some (.inl 1)))))))
abbrev hX6_plain : Cond := .code yX6_plain cX6_plain 3 (some .int)
theorem mX6_plain : yM yX6_plain hX6_plain 2 := ⟨u_897, u_57, by decide +kernel, by decide +kernel, by decide +kernel⟩
set_option maxHeartbeats 4000000 in
set_option maxRecDepth 100000 in
theorem kX6_plain (l : Launch) (D : va_G) (cy : Nat → ClassId) (hl0 : l.stackTraces = false) (x : Nat) (xj : Nat) (xw : Nat) (xz : Nat) (xo : Nat) (xy : Nat) (xt : Nat) (xja : Nat) (xjb : Nat) (xjr : Int32) (xjk : Int32) (xjc : Int32) (xjg : Int32) (xjs : Int32) (xjan : Nat) (xjaf : Nat → Int32) (xjbn : Nat) (xjbf : Nat → Int32) (i1 : Int32) (i2 : Int32) {res : Nat ⊕ Int32} (hR : fX6_plain xjr xjk xjc xjg xjs xjaf xjbf i1 i2 = some res) : YX l D cy yX6_plain hX6_plain 6 1 6 [.ref x, .int i1, .int i2] [[(x, .inr (8, [.ref xj, .ref xw, .ref xz, .ref xo, .ref xy, .ref xt]))], [(xj, .inr (3, [.ref xja, .ref xjb, .int xjr, .int xjk, .int xjc, .int xjg, .int xjs]))], [(xja, .inr (6, [.ref xjan]))], [(xjan, .inl (cy 1, 81, .inl xjaf))], [(xjb, .inr (6, [.ref xjbn]))], [(xjbn, .inl (cy 1, 81, .inl xjbf))]] (fun v u => ∃ r, res = .inr r ∧ v = some (.int r) ∧ u = [[(x, .inr (8, [.ref xj, .ref xw, .ref xz, .ref xo, .ref xy, .ref xt]))], [(xj, .inr (3, [.ref xja, .ref xjb, .int xjr, .int xjk, .int xjc, .int xjg, .int xjs]))], [(xja, .inr (6, [.ref xjan]))], [(xjan, .inl (cy 1, 81, .inl xjaf))], [(xjb, .inr (6, [.ref xjbn]))], [(xjbn, .inl (cy 1, 81, .inl xjbf))]]) (fun E u => ∃ r, res = .inl r ∧ E = yE r ∧ u = [[(x, .inr (8, [.ref xj, .ref xw, .ref xz, .ref xo, .ref xy, .ref xt]))], [(xj, .inr (3, [.ref xja, .ref xjb, .int xjr, .int xjk, .int xjc, .int xjg, .int xjs]))], [(xja, .inr (6, [.ref xjan]))], [(xjan, .inl (cy 1, 81, .inl xjaf))], [(xjb, .inr (6, [.ref xjbn]))], [(xjbn, .inl (cy 1, 81, .inl xjbf))]]) := by
  unfold fX6_plain at hR
  refine YX.ofI (cc := cX6_plain) (maxL := 3) (ret := (some .int)) hl0 (by decide +kernel) rfl (Nat.le_of_ble_eq_true rfl) [(0, .ref x), (1, .int i1), (2, .int i2)] rfl rfl (fun p e s m args below meth c A H0 Q C ret thr => ?_)
  refine xr_iload_n (n := 1) (j := 1) C dX6_plain_0 rfl rfl ?_
  refine xr_if_lt (tgt := 30) (n := 4) C dX6_plain_1 rfl rfl (fun c_1 => ?_) (fun c_1 => ?_)
  · replace hR := yf_t c_1 hR
    obtain rfl := Option.some.inj hR
    exact thr "java/lang/IndexOutOfBoundsException" "there is no such row or column" 69 207 73 yt_X6_207 ⟨_, rfl, rfl, rfl⟩ (Nat.le_of_ble_eq_true rfl) (Nat.le_of_ble_eq_true rfl) (Nat.le_of_ble_eq_true rfl) (Nat.le_of_ble_eq_true rfl) dX6_plain_30 dX6_plain_33 dX6_plain_34 dX6_plain_36 dX6_plain_39
  · replace hR := yf_f c_1 hR
    refine xr_iload_n (n := 5) (j := 1) C dX6_plain_4 rfl rfl ?_
    refine xr_aload_n (n := 6) (j := 0) C dX6_plain_5 rfl rfl ?_
    refine xr_get (n := 9) C 0 rfl rfl 0 (by decide) in_X6 u_289 rfl (v := .ref xj) rfl dX6_plain_6 rfl ?_
    obtain ⟨x_2, hx_2, hR⟩ := yf_b hR
    refine xr_callVp (n := 12) (As := []) (rest := [.int i1]) C (kX1_rowsInAll l D cy (j := xj) (ja := xja) (jb := xjb) (jr := xjr) (jk := xjk) (jc := xjc) (jg := xjg) (js := xjs) hx_2) mX1_rowsInAll u_518 u_321 u_322 1 rfl rfl 6 [1] [0, 2, 3, 4, 5] rfl (by decide +kernel) rfl rfl rfl rfl (Nat.le_of_ble_eq_true rfl) (Nat.le_of_ble_eq_true rfl) (Nat.le_of_ble_eq_true rfl) (Nat.le_of_ble_eq_true rfl) (Nat.le_of_ble_eq_true rfl) dX6_plain_9 rfl (fun _ _ hp => hp.2) (fun v_3 hp_5 => ?_)
    obtain ⟨rfl, -⟩ := hp_5
    refine xr_st (st' := [.int x_2, .int i1]) rfl ?_
    refine xr_icmp_ge (tgt := 30) (n := 15) C dX6_plain_12 rfl rfl (fun c_6 => ?_) (fun c_6 => ?_)
    · replace hR := yf_t c_6 hR
      obtain rfl := Option.some.inj hR
      exact thr "java/lang/IndexOutOfBoundsException" "there is no such row or column" 69 207 73 yt_X6_207 ⟨_, rfl, rfl, rfl⟩ (Nat.le_of_ble_eq_true rfl) (Nat.le_of_ble_eq_true rfl) (Nat.le_of_ble_eq_true rfl) (Nat.le_of_ble_eq_true rfl) dX6_plain_30 dX6_plain_33 dX6_plain_34 dX6_plain_36 dX6_plain_39
    · replace hR := yf_f c_6 hR
      refine xr_iload_n (n := 16) (j := 2) C dX6_plain_15 rfl rfl ?_
      refine xr_if_lt (tgt := 30) (n := 19) C dX6_plain_16 rfl rfl (fun c_7 => ?_) (fun c_7 => ?_)
      · replace hR := yf_t c_7 hR
        obtain rfl := Option.some.inj hR
        exact thr "java/lang/IndexOutOfBoundsException" "there is no such row or column" 69 207 73 yt_X6_207 ⟨_, rfl, rfl, rfl⟩ (Nat.le_of_ble_eq_true rfl) (Nat.le_of_ble_eq_true rfl) (Nat.le_of_ble_eq_true rfl) (Nat.le_of_ble_eq_true rfl) dX6_plain_30 dX6_plain_33 dX6_plain_34 dX6_plain_36 dX6_plain_39
      · replace hR := yf_f c_7 hR
        refine xr_iload_n (n := 20) (j := 2) C dX6_plain_19 rfl rfl ?_
        refine xr_aload_n (n := 21) (j := 0) C dX6_plain_20 rfl rfl ?_
        refine xr_get (n := 24) C 0 rfl rfl 0 (by decide) in_X6 u_289 rfl (v := .ref xj) rfl dX6_plain_21 rfl ?_
        obtain ⟨x_8, hx_8, hR⟩ := yf_b hR
        refine xr_callVp (n := 27) (As := []) (rest := [.int i2]) C (kX1_columnsInAll l D cy (j := xj) (ja := xja) (jb := xjb) (jr := xjr) (jk := xjk) (jc := xjc) (jg := xjg) (js := xjs) hx_8) mX1_columnsInAll u_519 u_325 u_326 1 rfl rfl 6 [1] [0, 2, 3, 4, 5] rfl (by decide +kernel) rfl rfl rfl rfl (Nat.le_of_ble_eq_true rfl) (Nat.le_of_ble_eq_true rfl) (Nat.le_of_ble_eq_true rfl) (Nat.le_of_ble_eq_true rfl) (Nat.le_of_ble_eq_true rfl) dX6_plain_24 rfl (fun _ _ hp => hp.2) (fun v_9 hp_11 => ?_)
        obtain ⟨rfl, -⟩ := hp_11
        refine xr_st (st' := [.int x_8, .int i2]) rfl ?_
        refine xr_icmp_lt (tgt := 40) (n := 30) C dX6_plain_27 rfl rfl (fun c_12 => ?_) (fun c_12 => ?_)
        · replace hR := yf_t c_12 hR
          refine xr_aload_n (n := 41) (j := 0) C dX6_plain_40 rfl rfl ?_
          refine xr_get (n := 44) C 0 rfl rfl 0 (by decide) in_X6 u_289 rfl (v := .ref xj) rfl dX6_plain_41 rfl ?_
          refine xr_iload_n (n := 45) (j := 1) C dX6_plain_44 rfl rfl ?_
          refine xr_iload_n (n := 46) (j := 2) C dX6_plain_45 rfl rfl ?_
          obtain ⟨x_13, hx_13, hR⟩ := yf_b hR
          refine xr_callVp (n := 49) (As := [.int i1, .int i2]) (rest := []) C (kX1_plainOf l D cy (j := xj) (ja := xja) (jb := xjb) (jr := xjr) (jk := xjk) (jc := xjc) (jg := xjg) (js := xjs) (jan := xjan) (jaf := xjaf) (jbn := xjbn) (jbf := xjbf) (i1 := i1) (i2 := i2) hx_13) mX1_plainOf u_520 u_521 u_522 1 rfl rfl 6 [1, 2, 3, 4, 5] [0] rfl (by decide +kernel) rfl rfl rfl rfl (Nat.le_of_ble_eq_true rfl) (Nat.le_of_ble_eq_true rfl) (Nat.le_of_ble_eq_true rfl) (Nat.le_of_ble_eq_true rfl) (Nat.le_of_ble_eq_true rfl) dX6_plain_46 rfl (fun _ _ hp => hp.2) (fun v_14 hp_16 => ?_)
          obtain ⟨rfl, -⟩ := hp_16
          refine xr_st (st' := [.int x_13]) rfl ?_
          obtain rfl := Option.some.inj hR
          exact ret x_13 ⟨_, rfl, rfl, rfl⟩ (Nat.le_of_ble_eq_true rfl) (Nat.le_of_ble_eq_true rfl) dX6_plain_49
        · replace hR := yf_f c_12 hR
          obtain rfl := Option.some.inj hR
          exact thr "java/lang/IndexOutOfBoundsException" "there is no such row or column" 69 207 73 yt_X6_207 ⟨_, rfl, rfl, rfl⟩ (Nat.le_of_ble_eq_true rfl) (Nat.le_of_ble_eq_true rfl) (Nat.le_of_ble_eq_true rfl) (Nat.le_of_ble_eq_true rfl) dX6_plain_30 dX6_plain_33 dX6_plain_34 dX6_plain_36 dX6_plain_39
theorem dX6_beats_0 : decode cX6_beats 0 = .ok (.iload_n 1, 1) := by decide +kernel
theorem dX6_beats_1 : decode cX6_beats 1 = .ok (.iconst 1, 1) := by decide +kernel
theorem dX6_beats_2 : decode cX6_beats 2 = .ok (.if_icmp .lt 20, 3) := by decide +kernel
theorem dX6_beats_5 : decode cX6_beats 5 = .ok (.iload_n 1, 1) := by decide +kernel
theorem dX6_beats_6 : decode cX6_beats 6 = .ok (.bipush 31, 2) := by decide +kernel
theorem dX6_beats_8 : decode cX6_beats 8 = .ok (.if_icmp .gt 14, 3) := by decide +kernel
theorem dX6_beats_11 : decode cX6_beats 11 = .ok (.iload_n 2, 1) := by decide +kernel
theorem dX6_beats_12 : decode cX6_beats 12 = .ok (.iconst 1, 1) := by decide +kernel
theorem dX6_beats_13 : decode cX6_beats 13 = .ok (.if_icmp .lt 9, 3) := by decide +kernel
theorem dX6_beats_16 : decode cX6_beats 16 = .ok (.iload_n 2, 1) := by decide +kernel
theorem dX6_beats_17 : decode cX6_beats 17 = .ok (.bipush 31, 2) := by decide +kernel
theorem dX6_beats_19 : decode cX6_beats 19 = .ok (.if_icmp .le 13, 3) := by decide +kernel
theorem dX6_beats_22 : decode cX6_beats 22 = .ok (.new 47, 3) := by decide +kernel
theorem dX6_beats_25 : decode cX6_beats 25 = .ok (.dup, 1) := by decide +kernel
theorem dX6_beats_26 : decode cX6_beats 26 = .ok (.ldc 229, 2) := by decide +kernel
theorem dX6_beats_28 : decode cX6_beats 28 = .ok (.invokespecial 51, 3) := by decide +kernel
theorem dX6_beats_31 : decode cX6_beats 31 = .ok (.athrow, 1) := by decide +kernel
theorem dX6_beats_32 : decode cX6_beats 32 = .ok (.aload_n 0, 1) := by decide +kernel
theorem dX6_beats_33 : decode cX6_beats 33 = .ok (.getfield 44, 3) := by decide +kernel
theorem dX6_beats_36 : decode cX6_beats 36 = .ok (.aload_n 0, 1) := by decide +kernel
theorem dX6_beats_37 : decode cX6_beats 37 = .ok (.getfield 10, 3) := by decide +kernel
theorem dX6_beats_40 : decode cX6_beats 40 = .ok (.invokevirtual 231, 3) := by decide +kernel
theorem dX6_beats_43 : decode cX6_beats 43 = .ok (.aload_n 0, 1) := by decide +kernel
theorem dX6_beats_44 : decode cX6_beats 44 = .ok (.iload_n 1, 1) := by decide +kernel
theorem dX6_beats_45 : decode cX6_beats 45 = .ok (.iload_n 2, 1) := by decide +kernel
theorem dX6_beats_46 : decode cX6_beats 46 = .ok (.invokevirtual 235, 3) := by decide +kernel
theorem dX6_beats_49 : decode cX6_beats 49 = .ok (.ireturn, 1) := by decide +kernel
def fX6_beats (xjr : Int32) (xjk : Int32) (xjc : Int32) (xjg : Int32) (xjs : Int32) (xjaf : Nat → Int32) (xjbf : Nat → Int32) (xwk : Int32) (xt3 : Int32) (xt4 : Int32) (xt5 : Int32) (xt6 : Int32) (xt7 : Int32) (xt8 : Int32) (xt9 : Int32) (i1 : Int32) (i2 : Int32) : Option (Nat ⊕ (Int32 × Int32 × Int32 × Int32 × Int32 × Int32 × Int32 × Int32 × Int32 × Int32 × Int32)) := (if i1 < 1 then some (.inl 0) else (if 31 < i1 then some (.inl 0) else (if i2 < 1 then some (.inl 0) else (if i2 ≤ 31 then ((fX2_measure xjr xjk xjc xjg xjs xjaf xjbf).bind fun x_5 => ((fX6_beatsOn xwk x_5.1 x_5.2.1 x_5.2.2 xt3 xt4 xt5 xt6 xt7 xt8 xt9 i1 i2).bind fun x_9 => some (.inr (x_9.1, x_5.1, x_5.2.1, x_5.2.2, x_9.2.1, x_9.2.2.1, x_9.2.2.2.1, x_9.2.2.2.2.1, x_9.2.2.2.2.2.1, x_9.2.2.2.2.2.2.1, x_9.2.2.2.2.2.2.2)))) else some (.inl 0)))))
abbrev hX6_beats : Cond := .code yX6_beats cX6_beats 3 (some .int)
theorem mX6_beats : yM yX6_beats hX6_beats 2 := ⟨u_1178, u_57, by decide +kernel, by decide +kernel, by decide +kernel⟩
set_option maxHeartbeats 4000000 in
set_option maxRecDepth 100000 in
theorem kX6_beats (l : Launch) (D : va_G) (cy : Nat → ClassId) (hl0 : l.stackTraces = false) (x : Nat) (xj : Nat) (xw : Nat) (xz : Nat) (xo : Nat) (xy : Nat) (xt : Nat) (xja : Nat) (xjb : Nat) (xjr : Int32) (xjk : Int32) (xjc : Int32) (xjg : Int32) (xjs : Int32) (xjan : Nat) (xjaf : Nat → Int32) (xjbn : Nat) (xjbf : Nat → Int32) (xwu : Nat) (xwm : Nat) (xwb : Int32) (xwk : Int32) (xt0 : Int32) (xt1 : Int32) (xt2 : Int32) (xt3 : Int32) (xt4 : Int32) (xt5 : Int32) (xt6 : Int32) (xt7 : Int32) (xt8 : Int32) (xt9 : Int32) (i1 : Int32) (i2 : Int32) {res : Nat ⊕ (Int32 × Int32 × Int32 × Int32 × Int32 × Int32 × Int32 × Int32 × Int32 × Int32 × Int32)} (hR : fX6_beats xjr xjk xjc xjg xjs xjaf xjbf xwk xt3 xt4 xt5 xt6 xt7 xt8 xt9 i1 i2 = some res) : YX l D cy yX6_beats hX6_beats 6 1 6 [.ref x, .int i1, .int i2] [[(x, .inr (8, [.ref xj, .ref xw, .ref xz, .ref xo, .ref xy, .ref xt]))], [(xj, .inr (3, [.ref xja, .ref xjb, .int xjr, .int xjk, .int xjc, .int xjg, .int xjs]))], [(xja, .inr (6, [.ref xjan]))], [(xjan, .inl (cy 1, 81, .inl xjaf))], [(xjb, .inr (6, [.ref xjbn]))], [(xjbn, .inl (cy 1, 81, .inl xjbf))], [(xw, .inr (2, [.ref xwu, .ref xwm, .int xwb, .int xwk]))], [(xt, .inr (4, [.int xt0, .int xt1, .int xt2, .int xt3, .int xt4, .int xt5, .int xt6, .int xt7, .int xt8, .int xt9]))]] (fun v u => ∃ r, res = .inr r ∧ v = some (.int r.1) ∧ u = [[(x, .inr (8, [.ref xj, .ref xw, .ref xz, .ref xo, .ref xy, .ref xt]))], [(xj, .inr (3, [.ref xja, .ref xjb, .int xjr, .int xjk, .int xjc, .int xjg, .int xjs]))], [(xja, .inr (6, [.ref xjan]))], [(xjan, .inl (cy 1, 81, .inl xjaf))], [(xjb, .inr (6, [.ref xjbn]))], [(xjbn, .inl (cy 1, 81, .inl xjbf))], [(xw, .inr (2, [.ref xwu, .ref xwm, .int xwb, .int xwk]))], [(xt, .inr (4, [.int r.2.1, .int r.2.2.1, .int r.2.2.2.1, .int r.2.2.2.2.1, .int r.2.2.2.2.2.1, .int r.2.2.2.2.2.2.1, .int r.2.2.2.2.2.2.2.1, .int r.2.2.2.2.2.2.2.2.1, .int r.2.2.2.2.2.2.2.2.2.1, .int r.2.2.2.2.2.2.2.2.2.2]))]]) (fun E u => ∃ r, res = .inl r ∧ E = yE r ∧ u = [[(x, .inr (8, [.ref xj, .ref xw, .ref xz, .ref xo, .ref xy, .ref xt]))], [(xj, .inr (3, [.ref xja, .ref xjb, .int xjr, .int xjk, .int xjc, .int xjg, .int xjs]))], [(xja, .inr (6, [.ref xjan]))], [(xjan, .inl (cy 1, 81, .inl xjaf))], [(xjb, .inr (6, [.ref xjbn]))], [(xjbn, .inl (cy 1, 81, .inl xjbf))], [(xw, .inr (2, [.ref xwu, .ref xwm, .int xwb, .int xwk]))], [(xt, .inr (4, [.int xt0, .int xt1, .int xt2, .int xt3, .int xt4, .int xt5, .int xt6, .int xt7, .int xt8, .int xt9]))]]) := by
  unfold fX6_beats at hR
  refine YX.ofI (cc := cX6_beats) (maxL := 3) (ret := (some .int)) hl0 (by decide +kernel) rfl (Nat.le_of_ble_eq_true rfl) [(0, .ref x), (1, .int i1), (2, .int i2)] rfl rfl (fun p e s m args below meth c A H0 Q C ret thr => ?_)
  refine xr_iload_n (n := 1) (j := 1) C dX6_beats_0 rfl rfl ?_
  refine xr_iconst (n := 2) (v := 1) C dX6_beats_1 rfl rfl ?_
  refine xr_icmp_lt (tgt := 22) (n := 5) C dX6_beats_2 rfl rfl (fun c_1 => ?_) (fun c_1 => ?_)
  · replace hR := yf_t c_1 hR
    obtain rfl := Option.some.inj hR
    exact thr "java/lang/IllegalArgumentException" "a set of rows or columns is 1 to 31" 47 229 51 yt_X6_229 ⟨_, rfl, rfl, rfl⟩ (Nat.le_of_ble_eq_true rfl) (Nat.le_of_ble_eq_true rfl) (Nat.le_of_ble_eq_true rfl) (Nat.le_of_ble_eq_true rfl) dX6_beats_22 dX6_beats_25 dX6_beats_26 dX6_beats_28 dX6_beats_31
  · replace hR := yf_f c_1 hR
    refine xr_iload_n (n := 6) (j := 1) C dX6_beats_5 rfl rfl ?_
    refine xr_bipush (n := 8) (v := 31) C dX6_beats_6 rfl rfl ?_
    refine xr_icmp_gt (tgt := 22) (n := 11) C dX6_beats_8 rfl rfl (fun c_2 => ?_) (fun c_2 => ?_)
    · replace hR := yf_t c_2 hR
      obtain rfl := Option.some.inj hR
      exact thr "java/lang/IllegalArgumentException" "a set of rows or columns is 1 to 31" 47 229 51 yt_X6_229 ⟨_, rfl, rfl, rfl⟩ (Nat.le_of_ble_eq_true rfl) (Nat.le_of_ble_eq_true rfl) (Nat.le_of_ble_eq_true rfl) (Nat.le_of_ble_eq_true rfl) dX6_beats_22 dX6_beats_25 dX6_beats_26 dX6_beats_28 dX6_beats_31
    · replace hR := yf_f c_2 hR
      refine xr_iload_n (n := 12) (j := 2) C dX6_beats_11 rfl rfl ?_
      refine xr_iconst (n := 13) (v := 1) C dX6_beats_12 rfl rfl ?_
      refine xr_icmp_lt (tgt := 22) (n := 16) C dX6_beats_13 rfl rfl (fun c_3 => ?_) (fun c_3 => ?_)
      · replace hR := yf_t c_3 hR
        obtain rfl := Option.some.inj hR
        exact thr "java/lang/IllegalArgumentException" "a set of rows or columns is 1 to 31" 47 229 51 yt_X6_229 ⟨_, rfl, rfl, rfl⟩ (Nat.le_of_ble_eq_true rfl) (Nat.le_of_ble_eq_true rfl) (Nat.le_of_ble_eq_true rfl) (Nat.le_of_ble_eq_true rfl) dX6_beats_22 dX6_beats_25 dX6_beats_26 dX6_beats_28 dX6_beats_31
      · replace hR := yf_f c_3 hR
        refine xr_iload_n (n := 17) (j := 2) C dX6_beats_16 rfl rfl ?_
        refine xr_bipush (n := 19) (v := 31) C dX6_beats_17 rfl rfl ?_
        refine xr_icmp_le (tgt := 32) (n := 22) C dX6_beats_19 rfl rfl (fun c_4 => ?_) (fun c_4 => ?_)
        · replace hR := yf_t c_4 hR
          refine xr_aload_n (n := 33) (j := 0) C dX6_beats_32 rfl rfl ?_
          refine xr_get (n := 36) C 0 rfl rfl 5 (by decide) in_X6 u_294 rfl (v := .ref xt) rfl dX6_beats_33 rfl ?_
          refine xr_aload_n (n := 37) (j := 0) C dX6_beats_36 rfl rfl ?_
          refine xr_get (n := 40) C 0 rfl rfl 0 (by decide) in_X6 u_289 rfl (v := .ref xj) rfl dX6_beats_37 rfl ?_
          obtain ⟨x_5, hx_5, hR⟩ := yf_b hR
          refine xr_callV (n := 43) (As := [.ref xj]) (rest := []) C (kX2_measure l D cy (y := xt) (y0 := xt0) (y1 := xt1) (y2 := xt2) (y3 := xt3) (y4 := xt4) (y5 := xt5) (y6 := xt6) (y7 := xt7) (y8 := xt8) (y9 := xt9) (j := xj) (ja := xja) (jb := xjb) (jr := xjr) (jk := xjk) (jc := xjc) (jg := xjg) (js := xjs) (jan := xjan) (jaf := xjaf) (jbn := xjbn) (jbf := xjbf) hx_5) mX2_measure u_316 u_317 u_318 7 rfl rfl 8 [7, 1, 2, 3, 4, 5] [0, 6] rfl (by decide +kernel) rfl rfl rfl rfl (Nat.le_of_ble_eq_true rfl) (Nat.le_of_ble_eq_true rfl) (Nat.le_of_ble_eq_true rfl) (Nat.le_of_ble_eq_true rfl) (Nat.le_of_ble_eq_true rfl) dX6_beats_40 rfl (fun v_6 u_7 hp_8 => ?_)
          obtain ⟨rfl, rfl⟩ := hp_8
          refine xr_perm C 8 [6, 1, 2, 3, 4, 5, 7, 0] [] [[(x, .inr (8, [.ref xj, .ref xw, .ref xz, .ref xo, .ref xy, .ref xt]))], [(xj, .inr (3, [.ref xja, .ref xjb, .int xjr, .int xjk, .int xjc, .int xjg, .int xjs]))], [(xja, .inr (6, [.ref xjan]))], [(xjan, .inl (cy 1, 81, .inl xjaf))], [(xjb, .inr (6, [.ref xjbn]))], [(xjbn, .inl (cy 1, 81, .inl xjbf))], [(xw, .inr (2, [.ref xwu, .ref xwm, .int xwb, .int xwk]))], [(xt, .inr (4, [.int x_5.1, .int x_5.2.1, .int x_5.2.2, .int xt3, .int xt4, .int xt5, .int xt6, .int xt7, .int xt8, .int xt9]))]] rfl (by decide +kernel) rfl ?_
          refine xr_aload_n (n := 44) (j := 0) C dX6_beats_43 rfl rfl ?_
          refine xr_iload_n (n := 45) (j := 1) C dX6_beats_44 rfl rfl ?_
          refine xr_iload_n (n := 46) (j := 2) C dX6_beats_45 rfl rfl ?_
          obtain ⟨x_9, hx_9, hR⟩ := yf_b hR
          refine xr_callV (n := 49) (As := [.int i1, .int i2]) (rest := []) C (kX6_beatsOn l D cy (x := x) (xj := xj) (xw := xw) (xz := xz) (xo := xo) (xy := xy) (xt := xt) (xwu := xwu) (xwm := xwm) (xwb := xwb) (xwk := xwk) (xt0 := x_5.1) (xt1 := x_5.2.1) (xt2 := x_5.2.2) (xt3 := xt3) (xt4 := xt4) (xt5 := xt5) (xt6 := xt6) (xt7 := xt7) (xt8 := xt8) (xt9 := xt9) (i1 := i1) (i2 := i2) hx_9) mX6_beatsOn u_408 u_410 u_8 0 rfl rfl 8 [0, 6, 7] [1, 2, 3, 4, 5] rfl (by decide +kernel) rfl rfl rfl rfl (Nat.le_of_ble_eq_true rfl) (Nat.le_of_ble_eq_true rfl) (Nat.le_of_ble_eq_true rfl) (Nat.le_of_ble_eq_true rfl) (Nat.le_of_ble_eq_true rfl) dX6_beats_46 rfl (fun v_10 u_11 hp_12 => ?_)
          obtain ⟨rfl, rfl⟩ := hp_12
          refine xr_perm C 8 [0, 3, 4, 5, 6, 7, 1, 2] [] [[(x, .inr (8, [.ref xj, .ref xw, .ref xz, .ref xo, .ref xy, .ref xt]))], [(xj, .inr (3, [.ref xja, .ref xjb, .int xjr, .int xjk, .int xjc, .int xjg, .int xjs]))], [(xja, .inr (6, [.ref xjan]))], [(xjan, .inl (cy 1, 81, .inl xjaf))], [(xjb, .inr (6, [.ref xjbn]))], [(xjbn, .inl (cy 1, 81, .inl xjbf))], [(xw, .inr (2, [.ref xwu, .ref xwm, .int xwb, .int xwk]))], [(xt, .inr (4, [.int x_5.1, .int x_5.2.1, .int x_5.2.2, .int x_9.2.1, .int x_9.2.2.1, .int x_9.2.2.2.1, .int x_9.2.2.2.2.1, .int x_9.2.2.2.2.2.1, .int x_9.2.2.2.2.2.2.1, .int x_9.2.2.2.2.2.2.2]))]] rfl (by decide +kernel) rfl ?_
          refine xr_st (st' := [.int x_9.1]) rfl ?_
          obtain rfl := Option.some.inj hR
          exact ret x_9.1 ⟨_, rfl, rfl, rfl⟩ (Nat.le_of_ble_eq_true rfl) (Nat.le_of_ble_eq_true rfl) dX6_beats_49
        · replace hR := yf_f c_4 hR
          obtain rfl := Option.some.inj hR
          exact thr "java/lang/IllegalArgumentException" "a set of rows or columns is 1 to 31" 47 229 51 yt_X6_229 ⟨_, rfl, rfl, rfl⟩ (Nat.le_of_ble_eq_true rfl) (Nat.le_of_ble_eq_true rfl) (Nat.le_of_ble_eq_true rfl) (Nat.le_of_ble_eq_true rfl) dX6_beats_22 dX6_beats_25 dX6_beats_26 dX6_beats_28 dX6_beats_31
theorem dX6_best_0 : decode cX6_best 0 = .ok (.iload_n 1, 1) := by decide +kernel
theorem dX6_best_1 : decode cX6_best 1 = .ok (.ifCond .lt 8, 3) := by decide +kernel
theorem dX6_best_4 : decode cX6_best 4 = .ok (.iload_n 1, 1) := by decide +kernel
theorem dX6_best_5 : decode cX6_best 5 = .ok (.iconst 4, 1) := by decide +kernel
theorem dX6_best_6 : decode cX6_best 6 = .ok (.if_icmp .le 13, 3) := by decide +kernel
theorem dX6_best_9 : decode cX6_best 9 = .ok (.new 47, 3) := by decide +kernel
theorem dX6_best_12 : decode cX6_best 12 = .ok (.dup, 1) := by decide +kernel
theorem dX6_best_13 : decode cX6_best 13 = .ok (.ldc 238, 2) := by decide +kernel
theorem dX6_best_15 : decode cX6_best 15 = .ok (.invokespecial 51, 3) := by decide +kernel
theorem dX6_best_18 : decode cX6_best 18 = .ok (.athrow, 1) := by decide +kernel
theorem dX6_best_19 : decode cX6_best 19 = .ok (.aload_n 0, 1) := by decide +kernel
theorem dX6_best_20 : decode cX6_best 20 = .ok (.invokevirtual 143, 3) := by decide +kernel
theorem dX6_best_23 : decode cX6_best 23 = .ok (.aload_n 0, 1) := by decide +kernel
theorem dX6_best_24 : decode cX6_best 24 = .ok (.iload_n 1, 1) := by decide +kernel
theorem dX6_best_25 : decode cX6_best 25 = .ok (.invokevirtual 240, 3) := by decide +kernel
theorem dX6_best_28 : decode cX6_best 28 = .ok (.ireturn, 1) := by decide +kernel
def fX6_best (xjr : Int32) (xjk : Int32) (xjc : Int32) (xjg : Int32) (xjs : Int32) (xjaf : Nat → Int32) (xjbf : Nat → Int32) (xwk : Int32) (xt3 : Int32) (xt4 : Int32) (xt5 : Int32) (xt6 : Int32) (xt7 : Int32) (xt8 : Int32) (xt9 : Int32) (i1 : Int32) : Option (Nat ⊕ (Int32 × Int32 × Int32 × Int32 × Int32 × Int32 × Int32 × Int32 × Int32 × Int32 × Int32 × Int32 × Int32 × Int32 × Int32 × Int32 × Int32 × Int32 × Int32 × Int32 × Int32)) := (if i1 < 0 then some (.inl 0) else (if i1 ≤ 4 then ((fX6_findBest xjr xjk xjc xjg xjs xjaf xjbf xwk xt3 xt4 xt5 xt6 xt7 xt8 xt9).bind fun x_3 => ((fX6_bestNumber x_3.1 x_3.2.1 x_3.2.2.1 x_3.2.2.2.1 x_3.2.2.2.2.1 x_3.2.2.2.2.2.2.2.1 x_3.2.2.2.2.2.2.2.2.1 x_3.2.2.2.2.2.2.2.2.2.1 i1).bind fun x_7 => some (.inr (x_7, x_3.1, x_3.2.1, x_3.2.2.1, x_3.2.2.2.1, x_3.2.2.2.2.1, x_3.2.2.2.2.2.1, x_3.2.2.2.2.2.2.1, x_3.2.2.2.2.2.2.2.1, x_3.2.2.2.2.2.2.2.2.1, x_3.2.2.2.2.2.2.2.2.2.1, x_3.2.2.2.2.2.2.2.2.2.2.1, x_3.2.2.2.2.2.2.2.2.2.2.2.1, x_3.2.2.2.2.2.2.2.2.2.2.2.2.1, x_3.2.2.2.2.2.2.2.2.2.2.2.2.2.1, x_3.2.2.2.2.2.2.2.2.2.2.2.2.2.2.1, x_3.2.2.2.2.2.2.2.2.2.2.2.2.2.2.2.1, x_3.2.2.2.2.2.2.2.2.2.2.2.2.2.2.2.2.1, x_3.2.2.2.2.2.2.2.2.2.2.2.2.2.2.2.2.2.1, x_3.2.2.2.2.2.2.2.2.2.2.2.2.2.2.2.2.2.2.1, x_3.2.2.2.2.2.2.2.2.2.2.2.2.2.2.2.2.2.2.2)))) else some (.inl 0)))
abbrev hX6_best : Cond := .code yX6_best cX6_best 2 (some .int)
theorem mX6_best : yM yX6_best hX6_best 1 := ⟨u_1186, u_57, by decide +kernel, by decide +kernel, by decide +kernel⟩
set_option maxHeartbeats 4000000 in
set_option maxRecDepth 100000 in
theorem kX6_best (l : Launch) (D : va_G) (cy : Nat → ClassId) (hl0 : l.stackTraces = false) (x : Nat) (xj : Nat) (xw : Nat) (xz : Nat) (xo : Nat) (xy : Nat) (xt : Nat) (xja : Nat) (xjb : Nat) (xjr : Int32) (xjk : Int32) (xjc : Int32) (xjg : Int32) (xjs : Int32) (xjan : Nat) (xjaf : Nat → Int32) (xjbn : Nat) (xjbf : Nat → Int32) (xwu : Nat) (xwm : Nat) (xwb : Int32) (xwk : Int32) (xy0 : Int32) (xy1 : Int32) (xy2 : Int32) (xy3 : Int32) (xy4 : Int32) (xy5 : Int32) (xy6 : Int32) (xy7 : Int32) (xy8 : Int32) (xy9 : Int32) (xt0 : Int32) (xt1 : Int32) (xt2 : Int32) (xt3 : Int32) (xt4 : Int32) (xt5 : Int32) (xt6 : Int32) (xt7 : Int32) (xt8 : Int32) (xt9 : Int32) (i1 : Int32) {res : Nat ⊕ (Int32 × Int32 × Int32 × Int32 × Int32 × Int32 × Int32 × Int32 × Int32 × Int32 × Int32 × Int32 × Int32 × Int32 × Int32 × Int32 × Int32 × Int32 × Int32 × Int32 × Int32)} (hR : fX6_best xjr xjk xjc xjg xjs xjaf xjbf xwk xt3 xt4 xt5 xt6 xt7 xt8 xt9 i1 = some res) : YX l D cy yX6_best hX6_best 7 1 6 [.ref x, .int i1] [[(x, .inr (8, [.ref xj, .ref xw, .ref xz, .ref xo, .ref xy, .ref xt]))], [(xj, .inr (3, [.ref xja, .ref xjb, .int xjr, .int xjk, .int xjc, .int xjg, .int xjs]))], [(xja, .inr (6, [.ref xjan]))], [(xjan, .inl (cy 1, 81, .inl xjaf))], [(xjb, .inr (6, [.ref xjbn]))], [(xjbn, .inl (cy 1, 81, .inl xjbf))], [(xw, .inr (2, [.ref xwu, .ref xwm, .int xwb, .int xwk]))], [(xy, .inr (4, [.int xy0, .int xy1, .int xy2, .int xy3, .int xy4, .int xy5, .int xy6, .int xy7, .int xy8, .int xy9]))], [(xt, .inr (4, [.int xt0, .int xt1, .int xt2, .int xt3, .int xt4, .int xt5, .int xt6, .int xt7, .int xt8, .int xt9]))]] (fun v u => ∃ r, res = .inr r ∧ v = some (.int r.1) ∧ u = [[(x, .inr (8, [.ref xj, .ref xw, .ref xz, .ref xo, .ref xy, .ref xt]))], [(xj, .inr (3, [.ref xja, .ref xjb, .int xjr, .int xjk, .int xjc, .int xjg, .int xjs]))], [(xja, .inr (6, [.ref xjan]))], [(xjan, .inl (cy 1, 81, .inl xjaf))], [(xjb, .inr (6, [.ref xjbn]))], [(xjbn, .inl (cy 1, 81, .inl xjbf))], [(xw, .inr (2, [.ref xwu, .ref xwm, .int xwb, .int xwk]))], [(xy, .inr (4, [.int r.2.1, .int r.2.2.1, .int r.2.2.2.1, .int r.2.2.2.2.1, .int r.2.2.2.2.2.1, .int r.2.2.2.2.2.2.1, .int r.2.2.2.2.2.2.2.1, .int r.2.2.2.2.2.2.2.2.1, .int r.2.2.2.2.2.2.2.2.2.1, .int r.2.2.2.2.2.2.2.2.2.2.1]))], [(xt, .inr (4, [.int r.2.2.2.2.2.2.2.2.2.2.2.1, .int r.2.2.2.2.2.2.2.2.2.2.2.2.1, .int r.2.2.2.2.2.2.2.2.2.2.2.2.2.1, .int r.2.2.2.2.2.2.2.2.2.2.2.2.2.2.1, .int r.2.2.2.2.2.2.2.2.2.2.2.2.2.2.2.1, .int r.2.2.2.2.2.2.2.2.2.2.2.2.2.2.2.2.1, .int r.2.2.2.2.2.2.2.2.2.2.2.2.2.2.2.2.2.1, .int r.2.2.2.2.2.2.2.2.2.2.2.2.2.2.2.2.2.2.1, .int r.2.2.2.2.2.2.2.2.2.2.2.2.2.2.2.2.2.2.2.1, .int r.2.2.2.2.2.2.2.2.2.2.2.2.2.2.2.2.2.2.2.2]))]]) (fun E u => ∃ r, res = .inl r ∧ E = yE r ∧ u = [[(x, .inr (8, [.ref xj, .ref xw, .ref xz, .ref xo, .ref xy, .ref xt]))], [(xj, .inr (3, [.ref xja, .ref xjb, .int xjr, .int xjk, .int xjc, .int xjg, .int xjs]))], [(xja, .inr (6, [.ref xjan]))], [(xjan, .inl (cy 1, 81, .inl xjaf))], [(xjb, .inr (6, [.ref xjbn]))], [(xjbn, .inl (cy 1, 81, .inl xjbf))], [(xw, .inr (2, [.ref xwu, .ref xwm, .int xwb, .int xwk]))], [(xy, .inr (4, [.int xy0, .int xy1, .int xy2, .int xy3, .int xy4, .int xy5, .int xy6, .int xy7, .int xy8, .int xy9]))], [(xt, .inr (4, [.int xt0, .int xt1, .int xt2, .int xt3, .int xt4, .int xt5, .int xt6, .int xt7, .int xt8, .int xt9]))]]) := by
  unfold fX6_best at hR
  refine YX.ofI (cc := cX6_best) (maxL := 2) (ret := (some .int)) hl0 (by decide +kernel) rfl (Nat.le_of_ble_eq_true rfl) [(0, .ref x), (1, .int i1)] rfl rfl (fun p e s m args below meth c A H0 Q C ret thr => ?_)
  refine xr_iload_n (n := 1) (j := 1) C dX6_best_0 rfl rfl ?_
  refine xr_if_lt (tgt := 9) (n := 4) C dX6_best_1 rfl rfl (fun c_1 => ?_) (fun c_1 => ?_)
  · replace hR := yf_t c_1 hR
    obtain rfl := Option.some.inj hR
    exact thr "java/lang/IllegalArgumentException" "what is 0 to 4" 47 238 51 yt_X6_238 ⟨_, rfl, rfl, rfl⟩ (Nat.le_of_ble_eq_true rfl) (Nat.le_of_ble_eq_true rfl) (Nat.le_of_ble_eq_true rfl) (Nat.le_of_ble_eq_true rfl) dX6_best_9 dX6_best_12 dX6_best_13 dX6_best_15 dX6_best_18
  · replace hR := yf_f c_1 hR
    refine xr_iload_n (n := 5) (j := 1) C dX6_best_4 rfl rfl ?_
    refine xr_iconst (n := 6) (v := 4) C dX6_best_5 rfl rfl ?_
    refine xr_icmp_le (tgt := 19) (n := 9) C dX6_best_6 rfl rfl (fun c_2 => ?_) (fun c_2 => ?_)
    · replace hR := yf_t c_2 hR
      refine xr_aload_n (n := 20) (j := 0) C dX6_best_19 rfl rfl ?_
      obtain ⟨x_3, hx_3, hR⟩ := yf_b hR
      refine xr_callV (n := 23) (As := []) (rest := []) C (kX6_findBest l D cy (x := x) (xj := xj) (xw := xw) (xz := xz) (xo := xo) (xy := xy) (xt := xt) (xja := xja) (xjb := xjb) (xjr := xjr) (xjk := xjk) (xjc := xjc) (xjg := xjg) (xjs := xjs) (xjan := xjan) (xjaf := xjaf) (xjbn := xjbn) (xjbf := xjbf) (xwu := xwu) (xwm := xwm) (xwb := xwb) (xwk := xwk) (xy0 := xy0) (xy1 := xy1) (xy2 := xy2) (xy3 := xy3) (xy4 := xy4) (xy5 := xy5) (xy6 := xy6) (xy7 := xy7) (xy8 := xy8) (xy9 := xy9) (xt0 := xt0) (xt1 := xt1) (xt2 := xt2) (xt3 := xt3) (xt4 := xt4) (xt5 := xt5) (xt6 := xt6) (xt7 := xt7) (xt8 := xt8) (xt9 := xt9) hx_3) mX6_findBest u_312 u_314 u_0 0 rfl rfl 9 [0, 1, 2, 3, 4, 5, 6, 7, 8] [] rfl (by decide +kernel) rfl rfl rfl rfl (Nat.le_of_ble_eq_true rfl) (Nat.le_of_ble_eq_true rfl) (Nat.le_of_ble_eq_true rfl) (Nat.le_of_ble_eq_true rfl) (Nat.le_of_ble_eq_true rfl) dX6_best_20 rfl (fun v_4 u_5 hp_6 => ?_)
      obtain ⟨rfl, rfl⟩ := hp_6
      refine xr_perm C 9 [0, 1, 2, 3, 4, 5, 6, 7, 8] [] [[(x, .inr (8, [.ref xj, .ref xw, .ref xz, .ref xo, .ref xy, .ref xt]))], [(xj, .inr (3, [.ref xja, .ref xjb, .int xjr, .int xjk, .int xjc, .int xjg, .int xjs]))], [(xja, .inr (6, [.ref xjan]))], [(xjan, .inl (cy 1, 81, .inl xjaf))], [(xjb, .inr (6, [.ref xjbn]))], [(xjbn, .inl (cy 1, 81, .inl xjbf))], [(xw, .inr (2, [.ref xwu, .ref xwm, .int xwb, .int xwk]))], [(xy, .inr (4, [.int x_3.1, .int x_3.2.1, .int x_3.2.2.1, .int x_3.2.2.2.1, .int x_3.2.2.2.2.1, .int x_3.2.2.2.2.2.1, .int x_3.2.2.2.2.2.2.1, .int x_3.2.2.2.2.2.2.2.1, .int x_3.2.2.2.2.2.2.2.2.1, .int x_3.2.2.2.2.2.2.2.2.2.1]))], [(xt, .inr (4, [.int x_3.2.2.2.2.2.2.2.2.2.2.1, .int x_3.2.2.2.2.2.2.2.2.2.2.2.1, .int x_3.2.2.2.2.2.2.2.2.2.2.2.2.1, .int x_3.2.2.2.2.2.2.2.2.2.2.2.2.2.1, .int x_3.2.2.2.2.2.2.2.2.2.2.2.2.2.2.1, .int x_3.2.2.2.2.2.2.2.2.2.2.2.2.2.2.2.1, .int x_3.2.2.2.2.2.2.2.2.2.2.2.2.2.2.2.2.1, .int x_3.2.2.2.2.2.2.2.2.2.2.2.2.2.2.2.2.2.1, .int x_3.2.2.2.2.2.2.2.2.2.2.2.2.2.2.2.2.2.2.1, .int x_3.2.2.2.2.2.2.2.2.2.2.2.2.2.2.2.2.2.2.2]))]] rfl (by decide +kernel) rfl ?_
      refine xr_aload_n (n := 24) (j := 0) C dX6_best_23 rfl rfl ?_
      refine xr_iload_n (n := 25) (j := 1) C dX6_best_24 rfl rfl ?_
      obtain ⟨x_7, hx_7, hR⟩ := yf_b hR
      refine xr_callVp (n := 28) (As := [.int i1]) (rest := []) C (kX6_bestNumber l D cy (x := x) (xj := xj) (xw := xw) (xz := xz) (xo := xo) (xy := xy) (xt := xt) (xy0 := x_3.1) (xy1 := x_3.2.1) (xy2 := x_3.2.2.1) (xy3 := x_3.2.2.2.1) (xy4 := x_3.2.2.2.2.1) (xy5 := x_3.2.2.2.2.2.1) (xy6 := x_3.2.2.2.2.2.2.1) (xy7 := x_3.2.2.2.2.2.2.2.1) (xy8 := x_3.2.2.2.2.2.2.2.2.1) (xy9 := x_3.2.2.2.2.2.2.2.2.2.1) (i1 := i1) hx_7) mX6_bestNumber u_542 u_544 u_18 0 rfl rfl 9 [0, 7] [1, 2, 3, 4, 5, 6, 8] rfl (by decide +kernel) rfl rfl rfl rfl (Nat.le_of_ble_eq_true rfl) (Nat.le_of_ble_eq_true rfl) (Nat.le_of_ble_eq_true rfl) (Nat.le_of_ble_eq_true rfl) (Nat.le_of_ble_eq_true rfl) dX6_best_25 rfl (fun _ _ hp => hp.2) (fun v_8 hp_10 => ?_)
      obtain ⟨rfl, -⟩ := hp_10
      refine xr_st (st' := [.int x_7]) rfl ?_
      obtain rfl := Option.some.inj hR
      exact ret x_7 ⟨_, rfl, rfl, rfl⟩ (Nat.le_of_ble_eq_true rfl) (Nat.le_of_ble_eq_true rfl) dX6_best_28
    · replace hR := yf_f c_2 hR
      obtain rfl := Option.some.inj hR
      exact thr "java/lang/IllegalArgumentException" "what is 0 to 4" 47 238 51 yt_X6_238 ⟨_, rfl, rfl, rfl⟩ (Nat.le_of_ble_eq_true rfl) (Nat.le_of_ble_eq_true rfl) (Nat.le_of_ble_eq_true rfl) (Nat.le_of_ble_eq_true rfl) dX6_best_9 dX6_best_12 dX6_best_13 dX6_best_15 dX6_best_18
theorem dX6_saved_0 : decode cX6_saved 0 = .ok (.aload_n 0, 1) := by decide +kernel
theorem dX6_saved_1 : decode cX6_saved 1 = .ok (.invokevirtual 143, 3) := by decide +kernel
theorem dX6_saved_4 : decode cX6_saved 4 = .ok (.aload_n 0, 1) := by decide +kernel
theorem dX6_saved_5 : decode cX6_saved 5 = .ok (.invokevirtual 243, 3) := by decide +kernel
theorem dX6_saved_8 : decode cX6_saved 8 = .ok (.ireturn, 1) := by decide +kernel
def fX6_saved (xjr : Int32) (xjk : Int32) (xjc : Int32) (xjg : Int32) (xjs : Int32) (xjaf : Nat → Int32) (xjbf : Nat → Int32) (xwk : Int32) (xt3 : Int32) (xt4 : Int32) (xt5 : Int32) (xt6 : Int32) (xt7 : Int32) (xt8 : Int32) (xt9 : Int32) : Option (Int32 × Int32 × Int32 × Int32 × Int32 × Int32 × Int32 × Int32 × Int32 × Int32 × Int32 × Int32 × Int32 × Int32 × Int32 × Int32 × Int32 × Int32 × Int32 × Int32 × Int32) := ((fX6_findBest xjr xjk xjc xjg xjs xjaf xjbf xwk xt3 xt4 xt5 xt6 xt7 xt8 xt9).bind fun x_1 => ((fX6_savedBeats xjk x_1.2.2.1 x_1.2.2.2.2.2.2.2.1 x_1.2.2.2.2.2.2.2.2.1).bind fun x_5 => some (x_5, x_1.1, x_1.2.1, x_1.2.2.1, x_1.2.2.2.1, x_1.2.2.2.2.1, x_1.2.2.2.2.2.1, x_1.2.2.2.2.2.2.1, x_1.2.2.2.2.2.2.2.1, x_1.2.2.2.2.2.2.2.2.1, x_1.2.2.2.2.2.2.2.2.2.1, x_1.2.2.2.2.2.2.2.2.2.2.1, x_1.2.2.2.2.2.2.2.2.2.2.2.1, x_1.2.2.2.2.2.2.2.2.2.2.2.2.1, x_1.2.2.2.2.2.2.2.2.2.2.2.2.2.1, x_1.2.2.2.2.2.2.2.2.2.2.2.2.2.2.1, x_1.2.2.2.2.2.2.2.2.2.2.2.2.2.2.2.1, x_1.2.2.2.2.2.2.2.2.2.2.2.2.2.2.2.2.1, x_1.2.2.2.2.2.2.2.2.2.2.2.2.2.2.2.2.2.1, x_1.2.2.2.2.2.2.2.2.2.2.2.2.2.2.2.2.2.2.1, x_1.2.2.2.2.2.2.2.2.2.2.2.2.2.2.2.2.2.2.2)))
abbrev hX6_saved : Cond := .code yX6_saved cX6_saved 1 (some .int)
theorem mX6_saved : yM yX6_saved hX6_saved 0 := ⟨u_311, u_57, by decide +kernel, by decide +kernel, by decide +kernel⟩
set_option maxHeartbeats 4000000 in
set_option maxRecDepth 100000 in
theorem kX6_saved (l : Launch) (D : va_G) (cy : Nat → ClassId) (x : Nat) (xj : Nat) (xw : Nat) (xz : Nat) (xo : Nat) (xy : Nat) (xt : Nat) (xja : Nat) (xjb : Nat) (xjr : Int32) (xjk : Int32) (xjc : Int32) (xjg : Int32) (xjs : Int32) (xjan : Nat) (xjaf : Nat → Int32) (xjbn : Nat) (xjbf : Nat → Int32) (xwu : Nat) (xwm : Nat) (xwb : Int32) (xwk : Int32) (xy0 : Int32) (xy1 : Int32) (xy2 : Int32) (xy3 : Int32) (xy4 : Int32) (xy5 : Int32) (xy6 : Int32) (xy7 : Int32) (xy8 : Int32) (xy9 : Int32) (xt0 : Int32) (xt1 : Int32) (xt2 : Int32) (xt3 : Int32) (xt4 : Int32) (xt5 : Int32) (xt6 : Int32) (xt7 : Int32) (xt8 : Int32) (xt9 : Int32) {res : Int32 × Int32 × Int32 × Int32 × Int32 × Int32 × Int32 × Int32 × Int32 × Int32 × Int32 × Int32 × Int32 × Int32 × Int32 × Int32 × Int32 × Int32 × Int32 × Int32 × Int32} (hR : fX6_saved xjr xjk xjc xjg xjs xjaf xjbf xwk xt3 xt4 xt5 xt6 xt7 xt8 xt9 = some res) : YM l D cy yX6_saved hX6_saved 7 0 0 [.ref x] [[(x, .inr (8, [.ref xj, .ref xw, .ref xz, .ref xo, .ref xy, .ref xt]))], [(xj, .inr (3, [.ref xja, .ref xjb, .int xjr, .int xjk, .int xjc, .int xjg, .int xjs]))], [(xja, .inr (6, [.ref xjan]))], [(xjan, .inl (cy 1, 81, .inl xjaf))], [(xjb, .inr (6, [.ref xjbn]))], [(xjbn, .inl (cy 1, 81, .inl xjbf))], [(xw, .inr (2, [.ref xwu, .ref xwm, .int xwb, .int xwk]))], [(xy, .inr (4, [.int xy0, .int xy1, .int xy2, .int xy3, .int xy4, .int xy5, .int xy6, .int xy7, .int xy8, .int xy9]))], [(xt, .inr (4, [.int xt0, .int xt1, .int xt2, .int xt3, .int xt4, .int xt5, .int xt6, .int xt7, .int xt8, .int xt9]))]] (fun v u => v = some (.int res.1) ∧ u = [[(x, .inr (8, [.ref xj, .ref xw, .ref xz, .ref xo, .ref xy, .ref xt]))], [(xj, .inr (3, [.ref xja, .ref xjb, .int xjr, .int xjk, .int xjc, .int xjg, .int xjs]))], [(xja, .inr (6, [.ref xjan]))], [(xjan, .inl (cy 1, 81, .inl xjaf))], [(xjb, .inr (6, [.ref xjbn]))], [(xjbn, .inl (cy 1, 81, .inl xjbf))], [(xw, .inr (2, [.ref xwu, .ref xwm, .int xwb, .int xwk]))], [(xy, .inr (4, [.int res.2.1, .int res.2.2.1, .int res.2.2.2.1, .int res.2.2.2.2.1, .int res.2.2.2.2.2.1, .int res.2.2.2.2.2.2.1, .int res.2.2.2.2.2.2.2.1, .int res.2.2.2.2.2.2.2.2.1, .int res.2.2.2.2.2.2.2.2.2.1, .int res.2.2.2.2.2.2.2.2.2.2.1]))], [(xt, .inr (4, [.int res.2.2.2.2.2.2.2.2.2.2.2.1, .int res.2.2.2.2.2.2.2.2.2.2.2.2.1, .int res.2.2.2.2.2.2.2.2.2.2.2.2.2.1, .int res.2.2.2.2.2.2.2.2.2.2.2.2.2.2.1, .int res.2.2.2.2.2.2.2.2.2.2.2.2.2.2.2.1, .int res.2.2.2.2.2.2.2.2.2.2.2.2.2.2.2.2.1, .int res.2.2.2.2.2.2.2.2.2.2.2.2.2.2.2.2.2.1, .int res.2.2.2.2.2.2.2.2.2.2.2.2.2.2.2.2.2.2.1, .int res.2.2.2.2.2.2.2.2.2.2.2.2.2.2.2.2.2.2.2.1, .int res.2.2.2.2.2.2.2.2.2.2.2.2.2.2.2.2.2.2.2.2]))]]) := by
  unfold fX6_saved at hR
  refine YM.ofI (cc := cX6_saved) (maxL := 1) (ret := (some .int)) (by decide +kernel) rfl (Nat.le_of_ble_eq_true rfl) [(0, .ref x)] rfl rfl (fun p e s m args below meth c A H0 Q C hnm ret => ?_)
  refine xr_aload_n (n := 1) (j := 0) C dX6_saved_0 rfl rfl ?_
  obtain ⟨x_1, hx_1, hR⟩ := yf_b hR
  refine xr_callV (n := 4) (As := []) (rest := []) C (kX6_findBest l D cy (x := x) (xj := xj) (xw := xw) (xz := xz) (xo := xo) (xy := xy) (xt := xt) (xja := xja) (xjb := xjb) (xjr := xjr) (xjk := xjk) (xjc := xjc) (xjg := xjg) (xjs := xjs) (xjan := xjan) (xjaf := xjaf) (xjbn := xjbn) (xjbf := xjbf) (xwu := xwu) (xwm := xwm) (xwb := xwb) (xwk := xwk) (xy0 := xy0) (xy1 := xy1) (xy2 := xy2) (xy3 := xy3) (xy4 := xy4) (xy5 := xy5) (xy6 := xy6) (xy7 := xy7) (xy8 := xy8) (xy9 := xy9) (xt0 := xt0) (xt1 := xt1) (xt2 := xt2) (xt3 := xt3) (xt4 := xt4) (xt5 := xt5) (xt6 := xt6) (xt7 := xt7) (xt8 := xt8) (xt9 := xt9) hx_1) mX6_findBest u_312 u_314 u_0 0 rfl rfl 9 [0, 1, 2, 3, 4, 5, 6, 7, 8] [] rfl (by decide +kernel) rfl rfl rfl rfl (Nat.le_of_ble_eq_true rfl) (Nat.le_of_ble_eq_true rfl) (Nat.le_of_ble_eq_true rfl) (Nat.le_of_ble_eq_true rfl) (Nat.le_of_ble_eq_true rfl) dX6_saved_1 rfl (fun v_2 u_3 hp_4 => ?_)
  obtain ⟨rfl, rfl⟩ := hp_4
  refine xr_perm C 9 [0, 1, 2, 3, 4, 5, 6, 7, 8] [] [[(x, .inr (8, [.ref xj, .ref xw, .ref xz, .ref xo, .ref xy, .ref xt]))], [(xj, .inr (3, [.ref xja, .ref xjb, .int xjr, .int xjk, .int xjc, .int xjg, .int xjs]))], [(xja, .inr (6, [.ref xjan]))], [(xjan, .inl (cy 1, 81, .inl xjaf))], [(xjb, .inr (6, [.ref xjbn]))], [(xjbn, .inl (cy 1, 81, .inl xjbf))], [(xw, .inr (2, [.ref xwu, .ref xwm, .int xwb, .int xwk]))], [(xy, .inr (4, [.int x_1.1, .int x_1.2.1, .int x_1.2.2.1, .int x_1.2.2.2.1, .int x_1.2.2.2.2.1, .int x_1.2.2.2.2.2.1, .int x_1.2.2.2.2.2.2.1, .int x_1.2.2.2.2.2.2.2.1, .int x_1.2.2.2.2.2.2.2.2.1, .int x_1.2.2.2.2.2.2.2.2.2.1]))], [(xt, .inr (4, [.int x_1.2.2.2.2.2.2.2.2.2.2.1, .int x_1.2.2.2.2.2.2.2.2.2.2.2.1, .int x_1.2.2.2.2.2.2.2.2.2.2.2.2.1, .int x_1.2.2.2.2.2.2.2.2.2.2.2.2.2.1, .int x_1.2.2.2.2.2.2.2.2.2.2.2.2.2.2.1, .int x_1.2.2.2.2.2.2.2.2.2.2.2.2.2.2.2.1, .int x_1.2.2.2.2.2.2.2.2.2.2.2.2.2.2.2.2.1, .int x_1.2.2.2.2.2.2.2.2.2.2.2.2.2.2.2.2.2.1, .int x_1.2.2.2.2.2.2.2.2.2.2.2.2.2.2.2.2.2.2.1, .int x_1.2.2.2.2.2.2.2.2.2.2.2.2.2.2.2.2.2.2.2]))]] rfl (by decide +kernel) rfl ?_
  refine xr_aload_n (n := 5) (j := 0) C dX6_saved_4 rfl rfl ?_
  obtain ⟨x_5, hx_5, hR⟩ := yf_b hR
  refine xr_callVp (n := 8) (As := []) (rest := []) C (kX6_savedBeats l D cy (x := x) (xj := xj) (xw := xw) (xz := xz) (xo := xo) (xy := xy) (xt := xt) (xja := xja) (xjb := xjb) (xjr := xjr) (xjk := xjk) (xjc := xjc) (xjg := xjg) (xjs := xjs) (xy0 := x_1.1) (xy1 := x_1.2.1) (xy2 := x_1.2.2.1) (xy3 := x_1.2.2.2.1) (xy4 := x_1.2.2.2.2.1) (xy5 := x_1.2.2.2.2.2.1) (xy6 := x_1.2.2.2.2.2.2.1) (xy7 := x_1.2.2.2.2.2.2.2.1) (xy8 := x_1.2.2.2.2.2.2.2.2.1) (xy9 := x_1.2.2.2.2.2.2.2.2.2.1) hx_5) mX6_savedBeats u_386 u_388 u_5 0 rfl rfl 9 [0, 1, 7] [2, 3, 4, 5, 6, 8] rfl (by decide +kernel) rfl rfl rfl rfl (Nat.le_of_ble_eq_true rfl) (Nat.le_of_ble_eq_true rfl) (Nat.le_of_ble_eq_true rfl) (Nat.le_of_ble_eq_true rfl) (Nat.le_of_ble_eq_true rfl) dX6_saved_5 rfl (fun _ _ hp => hp.2) (fun v_6 hp_8 => ?_)
  obtain ⟨rfl, -⟩ := hp_8
  refine xr_st (st' := [.int x_5]) rfl ?_
  obtain rfl := Option.some.inj hR
  exact ret x_5 ⟨rfl, rfl⟩ (Nat.le_of_ble_eq_true rfl) (Nat.le_of_ble_eq_true rfl) dX6_saved_8
