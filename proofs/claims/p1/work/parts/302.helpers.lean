theorem u_879 : Cond.methodLink RL 62 yX6_ofCell ∈ yU := yu_tables_1_4 103 (by decide +kernel) (by decide +kernel)
theorem u_880 : Cond.instanceMethod yX6_ofCell ∈ yU := yu_tables_1_4 104 (by decide +kernel) (by decide +kernel)
theorem u_881 : Cond.selects RX6 yX6_ofCell yX6_ofCell ∈ yU := yu_tables_1_4 105 (by decide +kernel) (by decide +kernel)
theorem u_878 : Cond.codeWith yL_ofCell cL_ofCell 6 (some .int) [(0, 13, 16, 24), (0, 13, 20, 19)] ∈ yU := yu_tables_1_4 102 (by decide +kernel) (by decide +kernel)
theorem u_887 : Cond.methodLink RL 65 yX6_result ∈ yU := yu_tables_1_4 111 (by decide +kernel) (by decide +kernel)
theorem u_888 : Cond.instanceMethod yX6_result ∈ yU := yu_tables_1_4 112 (by decide +kernel) (by decide +kernel)
theorem u_889 : Cond.selects RX6 yX6_result yX6_result ∈ yU := yu_tables_1_4 113 (by decide +kernel) (by decide +kernel)
theorem u_886 : Cond.codeWith yL_result cL_result 5 (some .int) [(0, 11, 14, 24)] ∈ yU := yu_tables_1_4 110 (by decide +kernel) (by decide +kernel)
theorem u_894 : Cond.methodLink RL 69 yX6_plain ∈ yU := yu_tables_1_4 118 (by decide +kernel) (by decide +kernel)
theorem u_895 : Cond.instanceMethod yX6_plain ∈ yU := yu_tables_1_4 119 (by decide +kernel) (by decide +kernel)
theorem u_896 : Cond.selects RX6 yX6_plain yX6_plain ∈ yU := yu_tables_1_4 120 (by decide +kernel) (by decide +kernel)
theorem u_893 : Cond.codeWith yL_plain cL_plain 5 (some .int) [(0, 11, 14, 24)] ∈ yU := yu_tables_1_4 117 (by decide +kernel) (by decide +kernel)
theorem u_902 : Cond.methodLink RL 72 yX6_row ∈ yU := yu_tables_1_4 126 (by decide +kernel) (by decide +kernel)
theorem u_903 : Cond.instanceMethod yX6_row ∈ yU := yu_tables_1_4 127 (by decide +kernel) (by decide +kernel)
theorem u_904 : Cond.selects RX6 yX6_row yX6_row ∈ yU := yu_tables_1_4 128 (by decide +kernel) (by decide +kernel)
theorem u_901 : Cond.codeWith yL_row cL_row 4 (some .int) [(0, 9, 12, 24)] ∈ yU := yu_tables_1_4 125 (by decide +kernel) (by decide +kernel)
theorem u_1175 : Cond.methodLink RL 80 yX6_beats ∈ yU := yu_tables_1_5 159 (by decide +kernel) (by decide +kernel)
theorem u_1176 : Cond.instanceMethod yX6_beats ∈ yU := yu_tables_1_5 160 (by decide +kernel) (by decide +kernel)
theorem u_1177 : Cond.selects RX6 yX6_beats yX6_beats ∈ yU := yu_tables_1_5 161 (by decide +kernel) (by decide +kernel)
theorem u_1174 : Cond.codeWith yL_beats cL_beats 5 (some .int) [(0, 11, 14, 19)] ∈ yU := yu_tables_1_5 158 (by decide +kernel) (by decide +kernel)
theorem u_1183 : Cond.methodLink RL 83 yX6_best ∈ yU := yu_tables_1_5 167 (by decide +kernel) (by decide +kernel)
theorem u_1184 : Cond.instanceMethod yX6_best ∈ yU := yu_tables_1_5 168 (by decide +kernel) (by decide +kernel)
theorem u_1185 : Cond.selects RX6 yX6_best yX6_best ∈ yU := yu_tables_1_5 169 (by decide +kernel) (by decide +kernel)
theorem u_1182 : Cond.codeWith yL_best cL_best 4 (some .int) [(0, 10, 13, 19)] ∈ yU := yu_tables_1_5 166 (by decide +kernel) (by decide +kernel)
theorem dd_L_ofCell_0 : dk_R cL_ofCell [(0, .aload 4, 2), (2, .aload_n 0, 1), (3, .iload_n 1, 1), (4, .iload_n 2, 1), (5, .iload_n 3, 1), (6, .invokevirtual 62, 3), (9, .i2l, 1), (10, .putfield 13, 3), (13, .goto 11, 3), (16, .astore 5, 2), (18, .iconst 1, 1), (19, .ireturn, 1), (20, .astore 5, 2), (22, .iconst 2, 1), (23, .ireturn, 1), (24, .iconst 0, 1)] := dk_use _ _ (by decide +kernel)
theorem dd_L_ofCell_1 : dk_R cL_ofCell [(25, .ireturn, 1)] := dk_use _ _ (by decide +kernel)
def fL_ofCell (xwb : Int32) (xwk : Int32) (xwuf : Nat → Int32) (xwmf : Nat → Int32) (xofr : Int32) (xofc : Int32) (xobt : Int32) (xobl : Int32) (xoy0 : Int32) (xoy1 : Int32) (xoy2 : Int32) (xoy3 : Int32) (xoy4 : Int32) (xoy5 : Int32) (xoy6 : Int32) (on : Int64) (i1 : Int32) (i2 : Int32) (i3 : Int32) : Option (Int32 × Int64) := ((fX6_ofCell xwb xwk xwuf xwmf xofr xofc xobt xobl xoy0 xoy1 xoy2 xoy3 xoy4 xoy5 xoy6 i1 i2 i3).bind fun x_1 => ybr x_1 (fun w_7 => (if w_7 = 0 then some (2, on) else (if w_7 = 1 then some (1, on) else none))) (fun w_12 => some (0, w_12.toInt64)))
abbrev hL_ofCell : Cond := .codeWith yL_ofCell cL_ofCell 6 (some .int) [(0, 13, 16, 24), (0, 13, 20, 19)]
theorem mL_ofCell : yM yL_ofCell hL_ofCell 5 := ⟨u_878, u_56, by decide +kernel, by decide +kernel, by decide +kernel⟩
theorem yc_L_ofCell_0 : yCatch RL [(0, 13, 16, 24), (0, 13, 20, 19)] 6 (yE 0) 20 := ⟨(tableOf [(0, 13, 16, 24), (0, 13, 20, 19)]).take 1, (tableOf [(0, 13, 16, 24), (0, 13, 20, 19)])[1]'(by decide +kernel), (tableOf [(0, 13, 16, 24), (0, 13, 20, 19)]).drop 2, "java/lang/IllegalArgumentException", by rfl, fun z hz => by
    rw [List.mem_singleton.mp hz]
    exact Or.inr ⟨by decide +kernel, "java/lang/IndexOutOfBoundsException", u_654, by decide +kernel⟩, by decide +kernel, by decide +kernel, u_566, by decide +kernel, by rfl⟩
theorem yc_L_ofCell_1 : yCatch RL [(0, 13, 16, 24), (0, 13, 20, 19)] 6 (yE 1) 16 := ⟨(tableOf [(0, 13, 16, 24), (0, 13, 20, 19)]).take 0, (tableOf [(0, 13, 16, 24), (0, 13, 20, 19)])[0]'(by decide +kernel), (tableOf [(0, 13, 16, 24), (0, 13, 20, 19)]).drop 1, "java/lang/IndexOutOfBoundsException", by rfl, fun z hz => absurd hz List.not_mem_nil, by decide +kernel, by decide +kernel, u_654, by decide +kernel, by rfl⟩
set_option maxHeartbeats 4000000 in
set_option maxRecDepth 100000 in
theorem kL_ofCell (l : Launch) (D : va_G) (cy : Nat → ClassId) (hl0 : l.stackTraces = false) (x : Nat) (xj : Nat) (xw : Nat) (xz : Nat) (xo : Nat) (xy : Nat) (xt : Nat) (xwu : Nat) (xwm : Nat) (xwb : Int32) (xwk : Int32) (xwun : Nat) (xwuf : Nat → Int32) (xwmn : Nat) (xwmf : Nat → Int32) (xoj : Nat) (xoy : Nat) (xosk : Int32) (xoti : Int32) (xofr : Int32) (xofc : Int32) (xobt : Int32) (xobl : Int32) (xobe : Int32) (xose : Int32) (xotk : Int32) (xoy0 : Int32) (xoy1 : Int32) (xoy2 : Int32) (xoy3 : Int32) (xoy4 : Int32) (xoy5 : Int32) (xoy6 : Int32) (xoy7 : Int32) (xoy8 : Int32) (xoy9 : Int32) (o : Nat) (on : Int64) (os : Value) (i1 : Int32) (i2 : Int32) (i3 : Int32) {res : Int32 × Int64} (hR : fL_ofCell xwb xwk xwuf xwmf xofr xofc xobt xobl xoy0 xoy1 xoy2 xoy3 xoy4 xoy5 xoy6 on i1 i2 i3 = some res) : YM l D cy yL_ofCell hL_ofCell 7 1 6 [.ref x, .int i1, .int i2, .int i3, .ref o] [[(x, .inr (8, [.ref xj, .ref xw, .ref xz, .ref xo, .ref xy, .ref xt]))], [(xw, .inr (2, [.ref xwu, .ref xwm, .int xwb, .int xwk]))], [(xwu, .inr (6, [.ref xwun]))], [(xwun, .inl (cy 1, 81, .inl xwuf))], [(xwm, .inr (6, [.ref xwmn]))], [(xwmn, .inl (cy 1, 81, .inl xwmf))], [(xo, .inr (7, [.ref xoj, .ref xoy, .int xosk, .int xoti, .int xofr, .int xofc, .int xobt, .int xobl, .int xobe, .int xose, .int xotk]))], [(xoy, .inr (4, [.int xoy0, .int xoy1, .int xoy2, .int xoy3, .int xoy4, .int xoy5, .int xoy6, .int xoy7, .int xoy8, .int xoy9]))], [(o, .inr (9, [.long on, os]))]] (fun v u => v = some (.int res.1) ∧ u = [[(x, .inr (8, [.ref xj, .ref xw, .ref xz, .ref xo, .ref xy, .ref xt]))], [(xw, .inr (2, [.ref xwu, .ref xwm, .int xwb, .int xwk]))], [(xwu, .inr (6, [.ref xwun]))], [(xwun, .inl (cy 1, 81, .inl xwuf))], [(xwm, .inr (6, [.ref xwmn]))], [(xwmn, .inl (cy 1, 81, .inl xwmf))], [(xo, .inr (7, [.ref xoj, .ref xoy, .int xosk, .int xoti, .int xofr, .int xofc, .int xobt, .int xobl, .int xobe, .int xose, .int xotk]))], [(xoy, .inr (4, [.int xoy0, .int xoy1, .int xoy2, .int xoy3, .int xoy4, .int xoy5, .int xoy6, .int xoy7, .int xoy8, .int xoy9]))], [(o, .inr (9, [.long res.2, os]))]]) := by
  unfold fL_ofCell at hR
  refine YM.ofIW (cc := cL_ofCell) (maxL := 6) (hh := [(0, 13, 16, 24), (0, 13, 20, 19)]) (by decide +kernel) rfl (Nat.le_of_ble_eq_true rfl) [(0, .ref x), (1, .int i1), (2, .int i2), (3, .int i3), (4, .ref o)] rfl  (fun p e s m args below meth c A H0 Q C htab ret => ?_)
  refine xr_aload (n := 2) (j := 4) C dd_L_ofCell_0.1 rfl rfl ?_
  refine xr_aload_n (n := 3) (j := 0) C dd_L_ofCell_0.2.1 rfl rfl ?_
  refine xr_iload_n (n := 4) (j := 1) C dd_L_ofCell_0.2.2.1 rfl rfl ?_
  refine xr_iload_n (n := 5) (j := 2) C dd_L_ofCell_0.2.2.2.1 rfl rfl ?_
  refine xr_iload_n (n := 6) (j := 3) C dd_L_ofCell_0.2.2.2.2.1 rfl rfl ?_
  obtain ⟨x_1, hx_1, hR⟩ := yf_b hR
  refine xr_callVX (n := 9) (As := [.int i1, .int i2, .int i3]) (rest := [.ref o]) C htab (kX6_ofCell l D cy hl0 (x := x) (xj := xj) (xw := xw) (xz := xz) (xo := xo) (xy := xy) (xt := xt) (xwu := xwu) (xwm := xwm) (xwb := xwb) (xwk := xwk) (xwun := xwun) (xwuf := xwuf) (xwmn := xwmn) (xwmf := xwmf) (xoj := xoj) (xoy := xoy) (xosk := xosk) (xoti := xoti) (xofr := xofr) (xofc := xofc) (xobt := xobt) (xobl := xobl) (xobe := xobe) (xose := xose) (xotk := xotk) (xoy0 := xoy0) (xoy1 := xoy1) (xoy2 := xoy2) (xoy3 := xoy3) (xoy4 := xoy4) (xoy5 := xoy5) (xoy6 := xoy6) (xoy7 := xoy7) (xoy8 := xoy8) (xoy9 := xoy9) (i1 := i1) (i2 := i2) (i3 := i3) hx_1) mX6_ofCell u_879 u_880 u_881 0 rfl rfl 9 [0, 1, 2, 3, 4, 5, 6, 7] [8] rfl (by decide +kernel) rfl rfl rfl rfl (Nat.le_of_ble_eq_true rfl) (Nat.le_of_ble_eq_true rfl) (Nat.le_of_ble_eq_true rfl) (Nat.le_of_ble_eq_true rfl) (Nat.le_of_ble_eq_true rfl) dd_L_ofCell_0.2.2.2.2.2.1 rfl (fun E_ u_5 hp_6 => ?_) (fun v_2 u_3 hp_4 => ?_)
  · obtain ⟨w_7, ew_7, rfl, rfl⟩ := hp_6
    subst ew_7
    replace hR := ybr_l hR
    by_cases c_8 : w_7 = 0
    · replace hR := yf_t c_8 hR
      refine ⟨20, by rw [c_8]; exact yc_L_ofCell_0, fun q_9 => ?_⟩
      refine xr_perm C 9 [0, 1, 2, 3, 4, 5, 6, 7, 8] [] [[(x, .inr (8, [.ref xj, .ref xw, .ref xz, .ref xo, .ref xy, .ref xt]))], [(xw, .inr (2, [.ref xwu, .ref xwm, .int xwb, .int xwk]))], [(xwu, .inr (6, [.ref xwun]))], [(xwun, .inl (cy 1, 81, .inl xwuf))], [(xwm, .inr (6, [.ref xwmn]))], [(xwmn, .inl (cy 1, 81, .inl xwmf))], [(xo, .inr (7, [.ref xoj, .ref xoy, .int xosk, .int xoti, .int xofr, .int xofc, .int xobt, .int xobl, .int xobe, .int xose, .int xotk]))], [(xoy, .inr (4, [.int xoy0, .int xoy1, .int xoy2, .int xoy3, .int xoy4, .int xoy5, .int xoy6, .int xoy7, .int xoy8, .int xoy9]))], [(o, .inr (9, [.long on, os]))]] rfl (by decide +kernel) rfl ?_
      refine xr_astore (n := 22) C [(5, .ref q_9), (0, .ref x), (1, .int i1), (2, .int i2), (3, .int i3), (4, .ref o)] dd_L_ofCell_0.2.2.2.2.2.2.2.2.2.2.2.2.1 (by decide) rfl rfl ?_
      refine xr_iconst (n := 23) (v := 2) C dd_L_ofCell_0.2.2.2.2.2.2.2.2.2.2.2.2.2.1 rfl rfl ?_
      obtain rfl := Option.some.inj hR
      exact ret 2 ⟨rfl, rfl⟩ (Nat.le_of_ble_eq_true rfl) (Nat.le_of_ble_eq_true rfl) dd_L_ofCell_0.2.2.2.2.2.2.2.2.2.2.2.2.2.2.1
    replace hR := yf_f c_8 hR
    by_cases c_10 : w_7 = 1
    · replace hR := yf_t c_10 hR
      refine ⟨16, by rw [c_10]; exact yc_L_ofCell_1, fun q_11 => ?_⟩
      refine xr_perm C 9 [0, 1, 2, 3, 4, 5, 6, 7, 8] [] [[(x, .inr (8, [.ref xj, .ref xw, .ref xz, .ref xo, .ref xy, .ref xt]))], [(xw, .inr (2, [.ref xwu, .ref xwm, .int xwb, .int xwk]))], [(xwu, .inr (6, [.ref xwun]))], [(xwun, .inl (cy 1, 81, .inl xwuf))], [(xwm, .inr (6, [.ref xwmn]))], [(xwmn, .inl (cy 1, 81, .inl xwmf))], [(xo, .inr (7, [.ref xoj, .ref xoy, .int xosk, .int xoti, .int xofr, .int xofc, .int xobt, .int xobl, .int xobe, .int xose, .int xotk]))], [(xoy, .inr (4, [.int xoy0, .int xoy1, .int xoy2, .int xoy3, .int xoy4, .int xoy5, .int xoy6, .int xoy7, .int xoy8, .int xoy9]))], [(o, .inr (9, [.long on, os]))]] rfl (by decide +kernel) rfl ?_
      refine xr_astore (n := 18) C [(5, .ref q_11), (0, .ref x), (1, .int i1), (2, .int i2), (3, .int i3), (4, .ref o)] dd_L_ofCell_0.2.2.2.2.2.2.2.2.2.1 (by decide) rfl rfl ?_
      refine xr_iconst (n := 19) (v := 1) C dd_L_ofCell_0.2.2.2.2.2.2.2.2.2.2.1 rfl rfl ?_
      obtain rfl := Option.some.inj hR
      exact ret 1 ⟨rfl, rfl⟩ (Nat.le_of_ble_eq_true rfl) (Nat.le_of_ble_eq_true rfl) dd_L_ofCell_0.2.2.2.2.2.2.2.2.2.2.2.1
    replace hR := yf_f c_10 hR
    cases hR
  · obtain ⟨w_12, ew_12, rfl, rfl⟩ := hp_4
    subst ew_12
    replace hR := ybr_r hR
    refine xr_perm C 9 [0, 1, 2, 3, 4, 5, 6, 7, 8] [] [[(x, .inr (8, [.ref xj, .ref xw, .ref xz, .ref xo, .ref xy, .ref xt]))], [(xw, .inr (2, [.ref xwu, .ref xwm, .int xwb, .int xwk]))], [(xwu, .inr (6, [.ref xwun]))], [(xwun, .inl (cy 1, 81, .inl xwuf))], [(xwm, .inr (6, [.ref xwmn]))], [(xwmn, .inl (cy 1, 81, .inl xwmf))], [(xo, .inr (7, [.ref xoj, .ref xoy, .int xosk, .int xoti, .int xofr, .int xofc, .int xobt, .int xobl, .int xobe, .int xose, .int xotk]))], [(xoy, .inr (4, [.int xoy0, .int xoy1, .int xoy2, .int xoy3, .int xoy4, .int xoy5, .int xoy6, .int xoy7, .int xoy8, .int xoy9]))], [(o, .inr (9, [.long on, os]))]] rfl (by decide +kernel) rfl ?_
    refine xr_st (st' := [.int w_12, .ref o]) rfl ?_
    refine xr_i2l (n := 10) C dd_L_ofCell_0.2.2.2.2.2.2.1 rfl ?_
    refine xr_putN (n := 13) C 8 rfl rfl 0 (by decide) in_X7 tyX7 tyX7_ok nmX7 RL (List.mem_of_getElem? (i := 46) rfl) rfl rfl rfl rfl (Nat.le_of_ble_eq_true rfl) [[(x, .inr (8, [.ref xj, .ref xw, .ref xz, .ref xo, .ref xy, .ref xt]))], [(xw, .inr (2, [.ref xwu, .ref xwm, .int xwb, .int xwk]))], [(xwu, .inr (6, [.ref xwun]))], [(xwun, .inl (cy 1, 81, .inl xwuf))], [(xwm, .inr (6, [.ref xwmn]))], [(xwmn, .inl (cy 1, 81, .inl xwmf))], [(xo, .inr (7, [.ref xoj, .ref xoy, .int xosk, .int xoti, .int xofr, .int xofc, .int xobt, .int xobl, .int xobe, .int xose, .int xotk]))], [(xoy, .inr (4, [.int xoy0, .int xoy1, .int xoy2, .int xoy3, .int xoy4, .int xoy5, .int xoy6, .int xoy7, .int xoy8, .int xoy9]))], [(o, .inr (9, [.long w_12.toInt64, os]))]] rfl rfl dd_L_ofCell_0.2.2.2.2.2.2.2.1 ?_
    refine xr_goto (tgt := 24) C dd_L_ofCell_0.2.2.2.2.2.2.2.2.1 rfl ?_
    refine xr_iconst (n := 25) (v := 0) C dd_L_ofCell_0.2.2.2.2.2.2.2.2.2.2.2.2.2.2.2.1 rfl rfl ?_
    obtain rfl := Option.some.inj hR
    exact ret 0 ⟨rfl, rfl⟩ (Nat.le_of_ble_eq_true rfl) (Nat.le_of_ble_eq_true rfl) dd_L_ofCell_1.1
theorem dd_L_result_0 : dk_R cL_result [(0, .aload_n 3, 1), (1, .aload_n 0, 1), (2, .iload_n 1, 1), (3, .iload_n 2, 1), (4, .invokevirtual 65, 3), (7, .i2l, 1), (8, .putfield 13, 3), (11, .goto 7, 3), (14, .astore 4, 2), (16, .iconst 1, 1), (17, .ireturn, 1), (18, .iconst 0, 1), (19, .ireturn, 1)] := dk_use _ _ (by decide +kernel)
def fL_result (xzr : Int32) (xzc : Int32) (xzvf : Nat → Int32) (on : Int64) (i1 : Int32) (i2 : Int32) : Option (Int32 × Int64) := ((fX6_result xzr xzc xzvf i1 i2).bind fun x_1 => ybr x_1 (fun w_7 => (if w_7 = 1 then some (1, on) else none)) (fun w_10 => some (0, w_10.toInt64)))
abbrev hL_result : Cond := .codeWith yL_result cL_result 5 (some .int) [(0, 11, 14, 24)]
theorem mL_result : yM yL_result hL_result 4 := ⟨u_886, u_56, by decide +kernel, by decide +kernel, by decide +kernel⟩
theorem yc_L_result_1 : yCatch RL [(0, 11, 14, 24)] 4 (yE 1) 14 := ⟨(tableOf [(0, 11, 14, 24)]).take 0, (tableOf [(0, 11, 14, 24)])[0]'(by decide +kernel), (tableOf [(0, 11, 14, 24)]).drop 1, "java/lang/IndexOutOfBoundsException", by rfl, fun z hz => absurd hz List.not_mem_nil, by decide +kernel, by decide +kernel, u_654, by decide +kernel, by rfl⟩
set_option maxHeartbeats 4000000 in
set_option maxRecDepth 100000 in
theorem kL_result (l : Launch) (D : va_G) (cy : Nat → ClassId) (hl0 : l.stackTraces = false) (x : Nat) (xj : Nat) (xw : Nat) (xz : Nat) (xo : Nat) (xy : Nat) (xt : Nat) (xzv : Nat) (xzr : Int32) (xzc : Int32) (xzs : Int32) (xzvn : Nat) (xzvf : Nat → Int32) (o : Nat) (on : Int64) (os : Value) (i1 : Int32) (i2 : Int32) {res : Int32 × Int64} (hR : fL_result xzr xzc xzvf on i1 i2 = some res) : YM l D cy yL_result hL_result 7 1 6 [.ref x, .int i1, .int i2, .ref o] [[(x, .inr (8, [.ref xj, .ref xw, .ref xz, .ref xo, .ref xy, .ref xt]))], [(xz, .inr (5, [.ref xzv, .int xzr, .int xzc, .int xzs]))], [(xzv, .inr (6, [.ref xzvn]))], [(xzvn, .inl (cy 1, 81, .inl xzvf))], [(o, .inr (9, [.long on, os]))]] (fun v u => v = some (.int res.1) ∧ u = [[(x, .inr (8, [.ref xj, .ref xw, .ref xz, .ref xo, .ref xy, .ref xt]))], [(xz, .inr (5, [.ref xzv, .int xzr, .int xzc, .int xzs]))], [(xzv, .inr (6, [.ref xzvn]))], [(xzvn, .inl (cy 1, 81, .inl xzvf))], [(o, .inr (9, [.long res.2, os]))]]) := by
  unfold fL_result at hR
  refine YM.ofIW (cc := cL_result) (maxL := 5) (hh := [(0, 11, 14, 24)]) (by decide +kernel) rfl (Nat.le_of_ble_eq_true rfl) [(0, .ref x), (1, .int i1), (2, .int i2), (3, .ref o)] rfl  (fun p e s m args below meth c A H0 Q C htab ret => ?_)
  refine xr_aload_n (n := 1) (j := 3) C dd_L_result_0.1 rfl rfl ?_
  refine xr_aload_n (n := 2) (j := 0) C dd_L_result_0.2.1 rfl rfl ?_
  refine xr_iload_n (n := 3) (j := 1) C dd_L_result_0.2.2.1 rfl rfl ?_
  refine xr_iload_n (n := 4) (j := 2) C dd_L_result_0.2.2.2.1 rfl rfl ?_
  obtain ⟨x_1, hx_1, hR⟩ := yf_b hR
  refine xr_callVX (n := 7) (As := [.int i1, .int i2]) (rest := [.ref o]) C htab (kX6_result l D cy hl0 (x := x) (xj := xj) (xw := xw) (xz := xz) (xo := xo) (xy := xy) (xt := xt) (xzv := xzv) (xzr := xzr) (xzc := xzc) (xzs := xzs) (xzvn := xzvn) (xzvf := xzvf) (i1 := i1) (i2 := i2) hx_1) mX6_result u_887 u_888 u_889 0 rfl rfl 5 [0, 1, 2, 3] [4] rfl (by decide +kernel) rfl rfl rfl rfl (Nat.le_of_ble_eq_true rfl) (Nat.le_of_ble_eq_true rfl) (Nat.le_of_ble_eq_true rfl) (Nat.le_of_ble_eq_true rfl) (Nat.le_of_ble_eq_true rfl) dd_L_result_0.2.2.2.2.1 rfl (fun E_ u_5 hp_6 => ?_) (fun v_2 u_3 hp_4 => ?_)
  · obtain ⟨w_7, ew_7, rfl, rfl⟩ := hp_6
    subst ew_7
    replace hR := ybr_l hR
    by_cases c_8 : w_7 = 1
    · replace hR := yf_t c_8 hR
      refine ⟨14, by rw [c_8]; exact yc_L_result_1, fun q_9 => ?_⟩
      refine xr_perm C 5 [0, 1, 2, 3, 4] [] [[(x, .inr (8, [.ref xj, .ref xw, .ref xz, .ref xo, .ref xy, .ref xt]))], [(xz, .inr (5, [.ref xzv, .int xzr, .int xzc, .int xzs]))], [(xzv, .inr (6, [.ref xzvn]))], [(xzvn, .inl (cy 1, 81, .inl xzvf))], [(o, .inr (9, [.long on, os]))]] rfl (by decide +kernel) rfl ?_
      refine xr_astore (n := 16) C [(4, .ref q_9), (0, .ref x), (1, .int i1), (2, .int i2), (3, .ref o)] dd_L_result_0.2.2.2.2.2.2.2.2.1 (by decide) rfl rfl ?_
      refine xr_iconst (n := 17) (v := 1) C dd_L_result_0.2.2.2.2.2.2.2.2.2.1 rfl rfl ?_
      obtain rfl := Option.some.inj hR
      exact ret 1 ⟨rfl, rfl⟩ (Nat.le_of_ble_eq_true rfl) (Nat.le_of_ble_eq_true rfl) dd_L_result_0.2.2.2.2.2.2.2.2.2.2.1
    replace hR := yf_f c_8 hR
    cases hR
  · obtain ⟨w_10, ew_10, rfl, rfl⟩ := hp_4
    subst ew_10
    replace hR := ybr_r hR
    refine xr_perm C 5 [0, 1, 2, 3, 4] [] [[(x, .inr (8, [.ref xj, .ref xw, .ref xz, .ref xo, .ref xy, .ref xt]))], [(xz, .inr (5, [.ref xzv, .int xzr, .int xzc, .int xzs]))], [(xzv, .inr (6, [.ref xzvn]))], [(xzvn, .inl (cy 1, 81, .inl xzvf))], [(o, .inr (9, [.long on, os]))]] rfl (by decide +kernel) rfl ?_
    refine xr_st (st' := [.int w_10, .ref o]) rfl ?_
    refine xr_i2l (n := 8) C dd_L_result_0.2.2.2.2.2.1 rfl ?_
    refine xr_putN (n := 11) C 4 rfl rfl 0 (by decide) in_X7 tyX7 tyX7_ok nmX7 RL (List.mem_of_getElem? (i := 46) rfl) rfl rfl rfl rfl (Nat.le_of_ble_eq_true rfl) [[(x, .inr (8, [.ref xj, .ref xw, .ref xz, .ref xo, .ref xy, .ref xt]))], [(xz, .inr (5, [.ref xzv, .int xzr, .int xzc, .int xzs]))], [(xzv, .inr (6, [.ref xzvn]))], [(xzvn, .inl (cy 1, 81, .inl xzvf))], [(o, .inr (9, [.long w_10.toInt64, os]))]] rfl rfl dd_L_result_0.2.2.2.2.2.2.1 ?_
    refine xr_goto (tgt := 18) C dd_L_result_0.2.2.2.2.2.2.2.1 rfl ?_
    refine xr_iconst (n := 19) (v := 0) C dd_L_result_0.2.2.2.2.2.2.2.2.2.2.2.1 rfl rfl ?_
    obtain rfl := Option.some.inj hR
    exact ret 0 ⟨rfl, rfl⟩ (Nat.le_of_ble_eq_true rfl) (Nat.le_of_ble_eq_true rfl) dd_L_result_0.2.2.2.2.2.2.2.2.2.2.2.2.1
theorem dd_L_plain_0 : dk_R cL_plain [(0, .aload_n 3, 1), (1, .aload_n 0, 1), (2, .iload_n 1, 1), (3, .iload_n 2, 1), (4, .invokevirtual 69, 3), (7, .i2l, 1), (8, .putfield 13, 3), (11, .goto 7, 3), (14, .astore 4, 2), (16, .iconst 1, 1), (17, .ireturn, 1), (18, .iconst 0, 1), (19, .ireturn, 1)] := dk_use _ _ (by decide +kernel)
def fL_plain (xjr : Int32) (xjk : Int32) (xjc : Int32) (xjg : Int32) (xjs : Int32) (xjaf : Nat → Int32) (xjbf : Nat → Int32) (on : Int64) (i1 : Int32) (i2 : Int32) : Option (Int32 × Int64) := ((fX6_plain xjr xjk xjc xjg xjs xjaf xjbf i1 i2).bind fun x_1 => ybr x_1 (fun w_7 => (if w_7 = 1 then some (1, on) else none)) (fun w_10 => some (0, w_10.toInt64)))
abbrev hL_plain : Cond := .codeWith yL_plain cL_plain 5 (some .int) [(0, 11, 14, 24)]
theorem mL_plain : yM yL_plain hL_plain 4 := ⟨u_893, u_56, by decide +kernel, by decide +kernel, by decide +kernel⟩
theorem yc_L_plain_1 : yCatch RL [(0, 11, 14, 24)] 4 (yE 1) 14 := ⟨(tableOf [(0, 11, 14, 24)]).take 0, (tableOf [(0, 11, 14, 24)])[0]'(by decide +kernel), (tableOf [(0, 11, 14, 24)]).drop 1, "java/lang/IndexOutOfBoundsException", by rfl, fun z hz => absurd hz List.not_mem_nil, by decide +kernel, by decide +kernel, u_654, by decide +kernel, by rfl⟩
set_option maxHeartbeats 4000000 in
set_option maxRecDepth 100000 in
theorem kL_plain (l : Launch) (D : va_G) (cy : Nat → ClassId) (hl0 : l.stackTraces = false) (x : Nat) (xj : Nat) (xw : Nat) (xz : Nat) (xo : Nat) (xy : Nat) (xt : Nat) (xja : Nat) (xjb : Nat) (xjr : Int32) (xjk : Int32) (xjc : Int32) (xjg : Int32) (xjs : Int32) (xjan : Nat) (xjaf : Nat → Int32) (xjbn : Nat) (xjbf : Nat → Int32) (o : Nat) (on : Int64) (os : Value) (i1 : Int32) (i2 : Int32) {res : Int32 × Int64} (hR : fL_plain xjr xjk xjc xjg xjs xjaf xjbf on i1 i2 = some res) : YM l D cy yL_plain hL_plain 7 1 6 [.ref x, .int i1, .int i2, .ref o] [[(x, .inr (8, [.ref xj, .ref xw, .ref xz, .ref xo, .ref xy, .ref xt]))], [(xj, .inr (3, [.ref xja, .ref xjb, .int xjr, .int xjk, .int xjc, .int xjg, .int xjs]))], [(xja, .inr (6, [.ref xjan]))], [(xjan, .inl (cy 1, 81, .inl xjaf))], [(xjb, .inr (6, [.ref xjbn]))], [(xjbn, .inl (cy 1, 81, .inl xjbf))], [(o, .inr (9, [.long on, os]))]] (fun v u => v = some (.int res.1) ∧ u = [[(x, .inr (8, [.ref xj, .ref xw, .ref xz, .ref xo, .ref xy, .ref xt]))], [(xj, .inr (3, [.ref xja, .ref xjb, .int xjr, .int xjk, .int xjc, .int xjg, .int xjs]))], [(xja, .inr (6, [.ref xjan]))], [(xjan, .inl (cy 1, 81, .inl xjaf))], [(xjb, .inr (6, [.ref xjbn]))], [(xjbn, .inl (cy 1, 81, .inl xjbf))], [(o, .inr (9, [.long res.2, os]))]]) := by
  unfold fL_plain at hR
  refine YM.ofIW (cc := cL_plain) (maxL := 5) (hh := [(0, 11, 14, 24)]) (by decide +kernel) rfl (Nat.le_of_ble_eq_true rfl) [(0, .ref x), (1, .int i1), (2, .int i2), (3, .ref o)] rfl  (fun p e s m args below meth c A H0 Q C htab ret => ?_)
  refine xr_aload_n (n := 1) (j := 3) C dd_L_plain_0.1 rfl rfl ?_
  refine xr_aload_n (n := 2) (j := 0) C dd_L_plain_0.2.1 rfl rfl ?_
  refine xr_iload_n (n := 3) (j := 1) C dd_L_plain_0.2.2.1 rfl rfl ?_
  refine xr_iload_n (n := 4) (j := 2) C dd_L_plain_0.2.2.2.1 rfl rfl ?_
  obtain ⟨x_1, hx_1, hR⟩ := yf_b hR
  refine xr_callVX (n := 7) (As := [.int i1, .int i2]) (rest := [.ref o]) C htab (kX6_plain l D cy hl0 (x := x) (xj := xj) (xw := xw) (xz := xz) (xo := xo) (xy := xy) (xt := xt) (xja := xja) (xjb := xjb) (xjr := xjr) (xjk := xjk) (xjc := xjc) (xjg := xjg) (xjs := xjs) (xjan := xjan) (xjaf := xjaf) (xjbn := xjbn) (xjbf := xjbf) (i1 := i1) (i2 := i2) hx_1) mX6_plain u_894 u_895 u_896 0 rfl rfl 7 [0, 1, 2, 3, 4, 5] [6] rfl (by decide +kernel) rfl rfl rfl rfl (Nat.le_of_ble_eq_true rfl) (Nat.le_of_ble_eq_true rfl) (Nat.le_of_ble_eq_true rfl) (Nat.le_of_ble_eq_true rfl) (Nat.le_of_ble_eq_true rfl) dd_L_plain_0.2.2.2.2.1 rfl (fun E_ u_5 hp_6 => ?_) (fun v_2 u_3 hp_4 => ?_)
  · obtain ⟨w_7, ew_7, rfl, rfl⟩ := hp_6
    subst ew_7
    replace hR := ybr_l hR
    by_cases c_8 : w_7 = 1
    · replace hR := yf_t c_8 hR
      refine ⟨14, by rw [c_8]; exact yc_L_plain_1, fun q_9 => ?_⟩
      refine xr_perm C 7 [0, 1, 2, 3, 4, 5, 6] [] [[(x, .inr (8, [.ref xj, .ref xw, .ref xz, .ref xo, .ref xy, .ref xt]))], [(xj, .inr (3, [.ref xja, .ref xjb, .int xjr, .int xjk, .int xjc, .int xjg, .int xjs]))], [(xja, .inr (6, [.ref xjan]))], [(xjan, .inl (cy 1, 81, .inl xjaf))], [(xjb, .inr (6, [.ref xjbn]))], [(xjbn, .inl (cy 1, 81, .inl xjbf))], [(o, .inr (9, [.long on, os]))]] rfl (by decide +kernel) rfl ?_
      refine xr_astore (n := 16) C [(4, .ref q_9), (0, .ref x), (1, .int i1), (2, .int i2), (3, .ref o)] dd_L_plain_0.2.2.2.2.2.2.2.2.1 (by decide) rfl rfl ?_
      refine xr_iconst (n := 17) (v := 1) C dd_L_plain_0.2.2.2.2.2.2.2.2.2.1 rfl rfl ?_
      obtain rfl := Option.some.inj hR
      exact ret 1 ⟨rfl, rfl⟩ (Nat.le_of_ble_eq_true rfl) (Nat.le_of_ble_eq_true rfl) dd_L_plain_0.2.2.2.2.2.2.2.2.2.2.1
    replace hR := yf_f c_8 hR
    cases hR
  · obtain ⟨w_10, ew_10, rfl, rfl⟩ := hp_4
    subst ew_10
    replace hR := ybr_r hR
    refine xr_perm C 7 [0, 1, 2, 3, 4, 5, 6] [] [[(x, .inr (8, [.ref xj, .ref xw, .ref xz, .ref xo, .ref xy, .ref xt]))], [(xj, .inr (3, [.ref xja, .ref xjb, .int xjr, .int xjk, .int xjc, .int xjg, .int xjs]))], [(xja, .inr (6, [.ref xjan]))], [(xjan, .inl (cy 1, 81, .inl xjaf))], [(xjb, .inr (6, [.ref xjbn]))], [(xjbn, .inl (cy 1, 81, .inl xjbf))], [(o, .inr (9, [.long on, os]))]] rfl (by decide +kernel) rfl ?_
    refine xr_st (st' := [.int w_10, .ref o]) rfl ?_
    refine xr_i2l (n := 8) C dd_L_plain_0.2.2.2.2.2.1 rfl ?_
    refine xr_putN (n := 11) C 6 rfl rfl 0 (by decide) in_X7 tyX7 tyX7_ok nmX7 RL (List.mem_of_getElem? (i := 46) rfl) rfl rfl rfl rfl (Nat.le_of_ble_eq_true rfl) [[(x, .inr (8, [.ref xj, .ref xw, .ref xz, .ref xo, .ref xy, .ref xt]))], [(xj, .inr (3, [.ref xja, .ref xjb, .int xjr, .int xjk, .int xjc, .int xjg, .int xjs]))], [(xja, .inr (6, [.ref xjan]))], [(xjan, .inl (cy 1, 81, .inl xjaf))], [(xjb, .inr (6, [.ref xjbn]))], [(xjbn, .inl (cy 1, 81, .inl xjbf))], [(o, .inr (9, [.long w_10.toInt64, os]))]] rfl rfl dd_L_plain_0.2.2.2.2.2.2.1 ?_
    refine xr_goto (tgt := 18) C dd_L_plain_0.2.2.2.2.2.2.2.1 rfl ?_
    refine xr_iconst (n := 19) (v := 0) C dd_L_plain_0.2.2.2.2.2.2.2.2.2.2.2.1 rfl rfl ?_
    obtain rfl := Option.some.inj hR
    exact ret 0 ⟨rfl, rfl⟩ (Nat.le_of_ble_eq_true rfl) (Nat.le_of_ble_eq_true rfl) dd_L_plain_0.2.2.2.2.2.2.2.2.2.2.2.2.1
theorem dd_L_row_0 : dk_R cL_row [(0, .aload_n 2, 1), (1, .aload_n 0, 1), (2, .iload_n 1, 1), (3, .invokevirtual 72, 3), (6, .putfield 76, 3), (9, .goto 6, 3), (12, .astore_n 3, 1), (13, .iconst 1, 1), (14, .ireturn, 1), (15, .iconst 0, 1), (16, .ireturn, 1)] := dk_use _ _ (by decide +kernel)
def fL_row (xwb : Int32) (xwk : Int32) (xobl : Int32) (xoy3 : Int32) (xoy4 : Int32) (i1 : Int32) : Option ((Int32 × (Nat → Int32) × Nat) ⊕ Int32) := ((fX6_row xwb xwk xobl xoy3 xoy4 i1).bind fun x_1 => ybr x_1 (fun w_7 => (if w_7 = 1 then some (.inr 1) else none)) (fun w_12 => some (.inl (0, w_12.1, w_12.2))))
abbrev hL_row : Cond := .codeWith yL_row cL_row 4 (some .int) [(0, 9, 12, 24)]
theorem mL_row : yM yL_row hL_row 3 := ⟨u_901, u_56, by decide +kernel, by decide +kernel, by decide +kernel⟩
theorem yc_L_row_1 : yCatch RL [(0, 9, 12, 24)] 3 (yE 1) 12 := ⟨(tableOf [(0, 9, 12, 24)]).take 0, (tableOf [(0, 9, 12, 24)])[0]'(by decide +kernel), (tableOf [(0, 9, 12, 24)]).drop 1, "java/lang/IndexOutOfBoundsException", by rfl, fun z hz => absurd hz List.not_mem_nil, by decide +kernel, by decide +kernel, u_654, by decide +kernel, by rfl⟩
set_option maxHeartbeats 4000000 in
set_option maxRecDepth 100000 in
theorem kL_row (l : Launch) (D : va_G) (cy : Nat → ClassId) (hl0 : l.stackTraces = false) (x : Nat) (xj : Nat) (xw : Nat) (xz : Nat) (xo : Nat) (xy : Nat) (xt : Nat) (xwu : Nat) (xwm : Nat) (xwb : Int32) (xwk : Int32) (xoj : Nat) (xoy : Nat) (xosk : Int32) (xoti : Int32) (xofr : Int32) (xofc : Int32) (xobt : Int32) (xobl : Int32) (xobe : Int32) (xose : Int32) (xotk : Int32) (xoy0 : Int32) (xoy1 : Int32) (xoy2 : Int32) (xoy3 : Int32) (xoy4 : Int32) (xoy5 : Int32) (xoy6 : Int32) (xoy7 : Int32) (xoy8 : Int32) (xoy9 : Int32) (o : Nat) (on : Int64) (os : Value) (i1 : Int32) {res : (Int32 × (Nat → Int32) × Nat) ⊕ Int32} (hR : fL_row xwb xwk xobl xoy3 xoy4 i1 = some res) : YM l D cy yL_row hL_row 8 4 40 [.ref x, .int i1, .ref o] [[(x, .inr (8, [.ref xj, .ref xw, .ref xz, .ref xo, .ref xy, .ref xt]))], [(xw, .inr (2, [.ref xwu, .ref xwm, .int xwb, .int xwk]))], [(xo, .inr (7, [.ref xoj, .ref xoy, .int xosk, .int xoti, .int xofr, .int xofc, .int xobt, .int xobl, .int xobe, .int xose, .int xotk]))], [(xoy, .inr (4, [.int xoy0, .int xoy1, .int xoy2, .int xoy3, .int xoy4, .int xoy5, .int xoy6, .int xoy7, .int xoy8, .int xoy9]))], [(o, .inr (9, [.long on, os]))]] (fun v u => (∃ r, res = .inl r ∧ ∃ rs : Nat, ∃ rsv : Nat, v = some (.int r.1) ∧ u = [[(x, .inr (8, [.ref xj, .ref xw, .ref xz, .ref xo, .ref xy, .ref xt]))], [(xw, .inr (2, [.ref xwu, .ref xwm, .int xwb, .int xwk]))], [(xo, .inr (7, [.ref xoj, .ref xoy, .int xosk, .int xoti, .int xofr, .int xofc, .int xobt, .int xobl, .int xobe, .int xose, .int xotk]))], [(xoy, .inr (4, [.int xoy0, .int xoy1, .int xoy2, .int xoy3, .int xoy4, .int xoy5, .int xoy6, .int xoy7, .int xoy8, .int xoy9]))], [(o, .inr (9, [.long on, .ref rs]))], [(rs, .inr (0, [.ref rsv, .int 0, .int 0, .int 0]))], [(rsv, .inl (cy 0, r.2.2, .inl r.2.1))]]) ∨ (∃ r, res = .inr r ∧ v = some (.int r) ∧ u = [[(x, .inr (8, [.ref xj, .ref xw, .ref xz, .ref xo, .ref xy, .ref xt]))], [(xw, .inr (2, [.ref xwu, .ref xwm, .int xwb, .int xwk]))], [(xo, .inr (7, [.ref xoj, .ref xoy, .int xosk, .int xoti, .int xofr, .int xofc, .int xobt, .int xobl, .int xobe, .int xose, .int xotk]))], [(xoy, .inr (4, [.int xoy0, .int xoy1, .int xoy2, .int xoy3, .int xoy4, .int xoy5, .int xoy6, .int xoy7, .int xoy8, .int xoy9]))], [(o, .inr (9, [.long on, os]))]])) := by
  unfold fL_row at hR
  refine YM.ofIW (cc := cL_row) (maxL := 4) (hh := [(0, 9, 12, 24)]) (by decide +kernel) rfl (Nat.le_of_ble_eq_true rfl) [(0, .ref x), (1, .int i1), (2, .ref o)] rfl  (fun p e s m args below meth c A H0 Q C htab ret => ?_)
  refine xr_aload_n (n := 1) (j := 2) C dd_L_row_0.1 rfl rfl ?_
  refine xr_aload_n (n := 2) (j := 0) C dd_L_row_0.2.1 rfl rfl ?_
  refine xr_iload_n (n := 3) (j := 1) C dd_L_row_0.2.2.1 rfl rfl ?_
  obtain ⟨x_1, hx_1, hR⟩ := yf_b hR
  refine xr_callVX (n := 6) (As := [.int i1]) (rest := [.ref o]) C htab (kX6_row l D cy hl0 (x := x) (xj := xj) (xw := xw) (xz := xz) (xo := xo) (xy := xy) (xt := xt) (xwu := xwu) (xwm := xwm) (xwb := xwb) (xwk := xwk) (xoj := xoj) (xoy := xoy) (xosk := xosk) (xoti := xoti) (xofr := xofr) (xofc := xofc) (xobt := xobt) (xobl := xobl) (xobe := xobe) (xose := xose) (xotk := xotk) (xoy0 := xoy0) (xoy1 := xoy1) (xoy2 := xoy2) (xoy3 := xoy3) (xoy4 := xoy4) (xoy5 := xoy5) (xoy6 := xoy6) (xoy7 := xoy7) (xoy8 := xoy8) (xoy9 := xoy9) (i1 := i1) hx_1) mX6_row u_902 u_903 u_904 0 rfl rfl 5 [0, 1, 2, 3] [4] rfl (by decide +kernel) rfl rfl rfl rfl (Nat.le_of_ble_eq_true rfl) (Nat.le_of_ble_eq_true rfl) (Nat.le_of_ble_eq_true rfl) (Nat.le_of_ble_eq_true rfl) (Nat.le_of_ble_eq_true rfl) dd_L_row_0.2.2.2.1 rfl (fun E_ u_5 hp_6 => ?_) (fun v_2 u_3 hp_4 => ?_)
  · obtain ⟨w_7, ew_7, rfl, rfl⟩ := hp_6
    subst ew_7
    replace hR := ybr_l hR
    by_cases c_8 : w_7 = 1
    · replace hR := yf_t c_8 hR
      refine ⟨12, by rw [c_8]; exact yc_L_row_1, fun q_9 => ?_⟩
      refine xr_perm C 5 [0, 1, 2, 3, 4] [] [[(x, .inr (8, [.ref xj, .ref xw, .ref xz, .ref xo, .ref xy, .ref xt]))], [(xw, .inr (2, [.ref xwu, .ref xwm, .int xwb, .int xwk]))], [(xo, .inr (7, [.ref xoj, .ref xoy, .int xosk, .int xoti, .int xofr, .int xofc, .int xobt, .int xobl, .int xobe, .int xose, .int xotk]))], [(xoy, .inr (4, [.int xoy0, .int xoy1, .int xoy2, .int xoy3, .int xoy4, .int xoy5, .int xoy6, .int xoy7, .int xoy8, .int xoy9]))], [(o, .inr (9, [.long on, os]))]] rfl (by decide +kernel) rfl ?_
      refine xr_astore_n (n := 13) C [(3, .ref q_9), (0, .ref x), (1, .int i1), (2, .ref o)] dd_L_row_0.2.2.2.2.2.2.1 (by decide) rfl rfl ?_
      refine xr_iconst (n := 14) (v := 1) C dd_L_row_0.2.2.2.2.2.2.2.1 rfl rfl ?_
      obtain rfl := Option.some.inj hR
      exact ret 1 (Or.inr ⟨_, rfl, rfl, rfl⟩) (Nat.le_of_ble_eq_true rfl) (Nat.le_of_ble_eq_true rfl) dd_L_row_0.2.2.2.2.2.2.2.2.1
    replace hR := yf_f c_8 hR
    cases hR
  · obtain ⟨w_12, ew_12, q_10, q_11, rfl, rfl⟩ := hp_4
    subst ew_12
    replace hR := ybr_r hR
    refine xr_perm C 7 [0, 1, 2, 3, 6, 4, 5] [] [[(x, .inr (8, [.ref xj, .ref xw, .ref xz, .ref xo, .ref xy, .ref xt]))], [(xw, .inr (2, [.ref xwu, .ref xwm, .int xwb, .int xwk]))], [(xo, .inr (7, [.ref xoj, .ref xoy, .int xosk, .int xoti, .int xofr, .int xofc, .int xobt, .int xobl, .int xobe, .int xose, .int xotk]))], [(xoy, .inr (4, [.int xoy0, .int xoy1, .int xoy2, .int xoy3, .int xoy4, .int xoy5, .int xoy6, .int xoy7, .int xoy8, .int xoy9]))], [(o, .inr (9, [.long on, os]))], [(q_10, .inr (0, [.ref q_11, .int 0, .int 0, .int 0]))], [(q_11, .inl (cy 0, w_12.2, .inl w_12.1))]] rfl (by decide +kernel) rfl ?_
    refine xr_st (st' := [.ref q_10, .ref o]) rfl ?_
    refine xr_putN (n := 9) C 4 rfl rfl 1 (by decide) in_X7 tyX7 tyX7_ok nmX7 RL (List.mem_of_getElem? (i := 47) rfl) rfl rfl rfl rfl (Nat.le_of_ble_eq_true rfl) [[(x, .inr (8, [.ref xj, .ref xw, .ref xz, .ref xo, .ref xy, .ref xt]))], [(xw, .inr (2, [.ref xwu, .ref xwm, .int xwb, .int xwk]))], [(xo, .inr (7, [.ref xoj, .ref xoy, .int xosk, .int xoti, .int xofr, .int xofc, .int xobt, .int xobl, .int xobe, .int xose, .int xotk]))], [(xoy, .inr (4, [.int xoy0, .int xoy1, .int xoy2, .int xoy3, .int xoy4, .int xoy5, .int xoy6, .int xoy7, .int xoy8, .int xoy9]))], [(o, .inr (9, [.long on, .ref q_10]))], [(q_10, .inr (0, [.ref q_11, .int 0, .int 0, .int 0]))], [(q_11, .inl (cy 0, w_12.2, .inl w_12.1))]] rfl rfl dd_L_row_0.2.2.2.2.1 ?_
    refine xr_goto (tgt := 15) C dd_L_row_0.2.2.2.2.2.1 rfl ?_
    refine xr_iconst (n := 16) (v := 0) C dd_L_row_0.2.2.2.2.2.2.2.2.2.1 rfl rfl ?_
    obtain rfl := Option.some.inj hR
    exact ret 0 (Or.inl ⟨_, rfl, q_10, q_11, rfl, rfl⟩) (Nat.le_of_ble_eq_true rfl) (Nat.le_of_ble_eq_true rfl) dd_L_row_0.2.2.2.2.2.2.2.2.2.2.1
theorem dd_L_beats_0 : dk_R cL_beats [(0, .aload_n 3, 1), (1, .aload_n 0, 1), (2, .iload_n 1, 1), (3, .iload_n 2, 1), (4, .invokevirtual 80, 3), (7, .i2l, 1), (8, .putfield 13, 3), (11, .goto 7, 3), (14, .astore 4, 2), (16, .iconst 1, 1), (17, .ireturn, 1), (18, .iconst 0, 1), (19, .ireturn, 1)] := dk_use _ _ (by decide +kernel)
def fL_beats (xjr : Int32) (xjk : Int32) (xjc : Int32) (xjg : Int32) (xjs : Int32) (xjaf : Nat → Int32) (xjbf : Nat → Int32) (xwk : Int32) (xt0 : Int32) (xt1 : Int32) (xt2 : Int32) (xt3 : Int32) (xt4 : Int32) (xt5 : Int32) (xt6 : Int32) (xt7 : Int32) (xt8 : Int32) (xt9 : Int32) (on : Int64) (i1 : Int32) (i2 : Int32) : Option (Int32 × Int32 × Int32 × Int32 × Int32 × Int32 × Int32 × Int32 × Int32 × Int32 × Int32 × Int64) := ((fX6_beats xjr xjk xjc xjg xjs xjaf xjbf xwk xt3 xt4 xt5 xt6 xt7 xt8 xt9 i1 i2).bind fun x_1 => ybr x_1 (fun w_7 => (if w_7 = 0 then some (1, xt0, xt1, xt2, xt3, xt4, xt5, xt6, xt7, xt8, xt9, on) else none)) (fun w_10 => some (0, w_10.2.1, w_10.2.2.1, w_10.2.2.2.1, w_10.2.2.2.2.1, w_10.2.2.2.2.2.1, w_10.2.2.2.2.2.2.1, w_10.2.2.2.2.2.2.2.1, w_10.2.2.2.2.2.2.2.2.1, w_10.2.2.2.2.2.2.2.2.2.1, w_10.2.2.2.2.2.2.2.2.2.2, w_10.1.toInt64)))
abbrev hL_beats : Cond := .codeWith yL_beats cL_beats 5 (some .int) [(0, 11, 14, 19)]
theorem mL_beats : yM yL_beats hL_beats 4 := ⟨u_1174, u_56, by decide +kernel, by decide +kernel, by decide +kernel⟩
theorem yc_L_beats_0 : yCatch RL [(0, 11, 14, 19)] 4 (yE 0) 14 := ⟨(tableOf [(0, 11, 14, 19)]).take 0, (tableOf [(0, 11, 14, 19)])[0]'(by decide +kernel), (tableOf [(0, 11, 14, 19)]).drop 1, "java/lang/IllegalArgumentException", by rfl, fun z hz => absurd hz List.not_mem_nil, by decide +kernel, by decide +kernel, u_566, by decide +kernel, by rfl⟩
set_option maxHeartbeats 4000000 in
set_option maxRecDepth 100000 in
theorem kL_beats (l : Launch) (D : va_G) (cy : Nat → ClassId) (hl0 : l.stackTraces = false) (x : Nat) (xj : Nat) (xw : Nat) (xz : Nat) (xo : Nat) (xy : Nat) (xt : Nat) (xja : Nat) (xjb : Nat) (xjr : Int32) (xjk : Int32) (xjc : Int32) (xjg : Int32) (xjs : Int32) (xjan : Nat) (xjaf : Nat → Int32) (xjbn : Nat) (xjbf : Nat → Int32) (xwu : Nat) (xwm : Nat) (xwb : Int32) (xwk : Int32) (xt0 : Int32) (xt1 : Int32) (xt2 : Int32) (xt3 : Int32) (xt4 : Int32) (xt5 : Int32) (xt6 : Int32) (xt7 : Int32) (xt8 : Int32) (xt9 : Int32) (o : Nat) (on : Int64) (os : Value) (i1 : Int32) (i2 : Int32) {res : Int32 × Int32 × Int32 × Int32 × Int32 × Int32 × Int32 × Int32 × Int32 × Int32 × Int32 × Int64} (hR : fL_beats xjr xjk xjc xjg xjs xjaf xjbf xwk xt0 xt1 xt2 xt3 xt4 xt5 xt6 xt7 xt8 xt9 on i1 i2 = some res) : YM l D cy yL_beats hL_beats 7 1 6 [.ref x, .int i1, .int i2, .ref o] [[(x, .inr (8, [.ref xj, .ref xw, .ref xz, .ref xo, .ref xy, .ref xt]))], [(xj, .inr (3, [.ref xja, .ref xjb, .int xjr, .int xjk, .int xjc, .int xjg, .int xjs]))], [(xja, .inr (6, [.ref xjan]))], [(xjan, .inl (cy 1, 81, .inl xjaf))], [(xjb, .inr (6, [.ref xjbn]))], [(xjbn, .inl (cy 1, 81, .inl xjbf))], [(xw, .inr (2, [.ref xwu, .ref xwm, .int xwb, .int xwk]))], [(xt, .inr (4, [.int xt0, .int xt1, .int xt2, .int xt3, .int xt4, .int xt5, .int xt6, .int xt7, .int xt8, .int xt9]))], [(o, .inr (9, [.long on, os]))]] (fun v u => v = some (.int res.1) ∧ u = [[(x, .inr (8, [.ref xj, .ref xw, .ref xz, .ref xo, .ref xy, .ref xt]))], [(xj, .inr (3, [.ref xja, .ref xjb, .int xjr, .int xjk, .int xjc, .int xjg, .int xjs]))], [(xja, .inr (6, [.ref xjan]))], [(xjan, .inl (cy 1, 81, .inl xjaf))], [(xjb, .inr (6, [.ref xjbn]))], [(xjbn, .inl (cy 1, 81, .inl xjbf))], [(xw, .inr (2, [.ref xwu, .ref xwm, .int xwb, .int xwk]))], [(xt, .inr (4, [.int res.2.1, .int res.2.2.1, .int res.2.2.2.1, .int res.2.2.2.2.1, .int res.2.2.2.2.2.1, .int res.2.2.2.2.2.2.1, .int res.2.2.2.2.2.2.2.1, .int res.2.2.2.2.2.2.2.2.1, .int res.2.2.2.2.2.2.2.2.2.1, .int res.2.2.2.2.2.2.2.2.2.2.1]))], [(o, .inr (9, [.long res.2.2.2.2.2.2.2.2.2.2.2, os]))]]) := by
  unfold fL_beats at hR
  refine YM.ofIW (cc := cL_beats) (maxL := 5) (hh := [(0, 11, 14, 19)]) (by decide +kernel) rfl (Nat.le_of_ble_eq_true rfl) [(0, .ref x), (1, .int i1), (2, .int i2), (3, .ref o)] rfl  (fun p e s m args below meth c A H0 Q C htab ret => ?_)
  refine xr_aload_n (n := 1) (j := 3) C dd_L_beats_0.1 rfl rfl ?_
  refine xr_aload_n (n := 2) (j := 0) C dd_L_beats_0.2.1 rfl rfl ?_
  refine xr_iload_n (n := 3) (j := 1) C dd_L_beats_0.2.2.1 rfl rfl ?_
  refine xr_iload_n (n := 4) (j := 2) C dd_L_beats_0.2.2.2.1 rfl rfl ?_
  obtain ⟨x_1, hx_1, hR⟩ := yf_b hR
  refine xr_callVX (n := 7) (As := [.int i1, .int i2]) (rest := [.ref o]) C htab (kX6_beats l D cy hl0 (x := x) (xj := xj) (xw := xw) (xz := xz) (xo := xo) (xy := xy) (xt := xt) (xja := xja) (xjb := xjb) (xjr := xjr) (xjk := xjk) (xjc := xjc) (xjg := xjg) (xjs := xjs) (xjan := xjan) (xjaf := xjaf) (xjbn := xjbn) (xjbf := xjbf) (xwu := xwu) (xwm := xwm) (xwb := xwb) (xwk := xwk) (xt0 := xt0) (xt1 := xt1) (xt2 := xt2) (xt3 := xt3) (xt4 := xt4) (xt5 := xt5) (xt6 := xt6) (xt7 := xt7) (xt8 := xt8) (xt9 := xt9) (i1 := i1) (i2 := i2) hx_1) mX6_beats u_1175 u_1176 u_1177 0 rfl rfl 9 [0, 1, 2, 3, 4, 5, 6, 7] [8] rfl (by decide +kernel) rfl rfl rfl rfl (Nat.le_of_ble_eq_true rfl) (Nat.le_of_ble_eq_true rfl) (Nat.le_of_ble_eq_true rfl) (Nat.le_of_ble_eq_true rfl) (Nat.le_of_ble_eq_true rfl) dd_L_beats_0.2.2.2.2.1 rfl (fun E_ u_5 hp_6 => ?_) (fun v_2 u_3 hp_4 => ?_)
  · obtain ⟨w_7, ew_7, rfl, rfl⟩ := hp_6
    subst ew_7
    replace hR := ybr_l hR
    by_cases c_8 : w_7 = 0
    · replace hR := yf_t c_8 hR
      refine ⟨14, by rw [c_8]; exact yc_L_beats_0, fun q_9 => ?_⟩
      refine xr_perm C 9 [0, 1, 2, 3, 4, 5, 6, 7, 8] [] [[(x, .inr (8, [.ref xj, .ref xw, .ref xz, .ref xo, .ref xy, .ref xt]))], [(xj, .inr (3, [.ref xja, .ref xjb, .int xjr, .int xjk, .int xjc, .int xjg, .int xjs]))], [(xja, .inr (6, [.ref xjan]))], [(xjan, .inl (cy 1, 81, .inl xjaf))], [(xjb, .inr (6, [.ref xjbn]))], [(xjbn, .inl (cy 1, 81, .inl xjbf))], [(xw, .inr (2, [.ref xwu, .ref xwm, .int xwb, .int xwk]))], [(xt, .inr (4, [.int xt0, .int xt1, .int xt2, .int xt3, .int xt4, .int xt5, .int xt6, .int xt7, .int xt8, .int xt9]))], [(o, .inr (9, [.long on, os]))]] rfl (by decide +kernel) rfl ?_
      refine xr_astore (n := 16) C [(4, .ref q_9), (0, .ref x), (1, .int i1), (2, .int i2), (3, .ref o)] dd_L_beats_0.2.2.2.2.2.2.2.2.1 (by decide) rfl rfl ?_
      refine xr_iconst (n := 17) (v := 1) C dd_L_beats_0.2.2.2.2.2.2.2.2.2.1 rfl rfl ?_
      obtain rfl := Option.some.inj hR
      exact ret 1 ⟨rfl, rfl⟩ (Nat.le_of_ble_eq_true rfl) (Nat.le_of_ble_eq_true rfl) dd_L_beats_0.2.2.2.2.2.2.2.2.2.2.1
    replace hR := yf_f c_8 hR
    cases hR
  · obtain ⟨w_10, ew_10, rfl, rfl⟩ := hp_4
    subst ew_10
    replace hR := ybr_r hR
    refine xr_perm C 9 [0, 1, 2, 3, 4, 5, 6, 7, 8] [] [[(x, .inr (8, [.ref xj, .ref xw, .ref xz, .ref xo, .ref xy, .ref xt]))], [(xj, .inr (3, [.ref xja, .ref xjb, .int xjr, .int xjk, .int xjc, .int xjg, .int xjs]))], [(xja, .inr (6, [.ref xjan]))], [(xjan, .inl (cy 1, 81, .inl xjaf))], [(xjb, .inr (6, [.ref xjbn]))], [(xjbn, .inl (cy 1, 81, .inl xjbf))], [(xw, .inr (2, [.ref xwu, .ref xwm, .int xwb, .int xwk]))], [(xt, .inr (4, [.int w_10.2.1, .int w_10.2.2.1, .int w_10.2.2.2.1, .int w_10.2.2.2.2.1, .int w_10.2.2.2.2.2.1, .int w_10.2.2.2.2.2.2.1, .int w_10.2.2.2.2.2.2.2.1, .int w_10.2.2.2.2.2.2.2.2.1, .int w_10.2.2.2.2.2.2.2.2.2.1, .int w_10.2.2.2.2.2.2.2.2.2.2]))], [(o, .inr (9, [.long on, os]))]] rfl (by decide +kernel) rfl ?_
    refine xr_st (st' := [.int w_10.1, .ref o]) rfl ?_
    refine xr_i2l (n := 8) C dd_L_beats_0.2.2.2.2.2.1 rfl ?_
    refine xr_putN (n := 11) C 8 rfl rfl 0 (by decide) in_X7 tyX7 tyX7_ok nmX7 RL (List.mem_of_getElem? (i := 46) rfl) rfl rfl rfl rfl (Nat.le_of_ble_eq_true rfl) [[(x, .inr (8, [.ref xj, .ref xw, .ref xz, .ref xo, .ref xy, .ref xt]))], [(xj, .inr (3, [.ref xja, .ref xjb, .int xjr, .int xjk, .int xjc, .int xjg, .int xjs]))], [(xja, .inr (6, [.ref xjan]))], [(xjan, .inl (cy 1, 81, .inl xjaf))], [(xjb, .inr (6, [.ref xjbn]))], [(xjbn, .inl (cy 1, 81, .inl xjbf))], [(xw, .inr (2, [.ref xwu, .ref xwm, .int xwb, .int xwk]))], [(xt, .inr (4, [.int w_10.2.1, .int w_10.2.2.1, .int w_10.2.2.2.1, .int w_10.2.2.2.2.1, .int w_10.2.2.2.2.2.1, .int w_10.2.2.2.2.2.2.1, .int w_10.2.2.2.2.2.2.2.1, .int w_10.2.2.2.2.2.2.2.2.1, .int w_10.2.2.2.2.2.2.2.2.2.1, .int w_10.2.2.2.2.2.2.2.2.2.2]))], [(o, .inr (9, [.long w_10.1.toInt64, os]))]] rfl rfl dd_L_beats_0.2.2.2.2.2.2.1 ?_
    refine xr_goto (tgt := 18) C dd_L_beats_0.2.2.2.2.2.2.2.1 rfl ?_
    refine xr_iconst (n := 19) (v := 0) C dd_L_beats_0.2.2.2.2.2.2.2.2.2.2.2.1 rfl rfl ?_
    obtain rfl := Option.some.inj hR
    exact ret 0 ⟨rfl, rfl⟩ (Nat.le_of_ble_eq_true rfl) (Nat.le_of_ble_eq_true rfl) dd_L_beats_0.2.2.2.2.2.2.2.2.2.2.2.2.1
theorem dd_L_best_0 : dk_R cL_best [(0, .aload_n 2, 1), (1, .aload_n 0, 1), (2, .iload_n 1, 1), (3, .invokevirtual 83, 3), (6, .i2l, 1), (7, .putfield 13, 3), (10, .goto 6, 3), (13, .astore_n 3, 1), (14, .iconst 1, 1), (15, .ireturn, 1), (16, .iconst 0, 1), (17, .ireturn, 1)] := dk_use _ _ (by decide +kernel)
def fL_best (xjr : Int32) (xjk : Int32) (xjc : Int32) (xjg : Int32) (xjs : Int32) (xjaf : Nat → Int32) (xjbf : Nat → Int32) (xwk : Int32) (xy0 : Int32) (xy1 : Int32) (xy2 : Int32) (xy3 : Int32) (xy4 : Int32) (xy5 : Int32) (xy6 : Int32) (xy7 : Int32) (xy8 : Int32) (xy9 : Int32) (xt0 : Int32) (xt1 : Int32) (xt2 : Int32) (xt3 : Int32) (xt4 : Int32) (xt5 : Int32) (xt6 : Int32) (xt7 : Int32) (xt8 : Int32) (xt9 : Int32) (on : Int64) (i1 : Int32) : Option (Int32 × Int32 × Int32 × Int32 × Int32 × Int32 × Int32 × Int32 × Int32 × Int32 × Int32 × Int32 × Int32 × Int32 × Int32 × Int32 × Int32 × Int32 × Int32 × Int32 × Int32 × Int64) := ((fX6_best xjr xjk xjc xjg xjs xjaf xjbf xwk xt3 xt4 xt5 xt6 xt7 xt8 xt9 i1).bind fun x_1 => ybr x_1 (fun w_7 => (if w_7 = 0 then some (1, xy0, xy1, xy2, xy3, xy4, xy5, xy6, xy7, xy8, xy9, xt0, xt1, xt2, xt3, xt4, xt5, xt6, xt7, xt8, xt9, on) else none)) (fun w_10 => some (0, w_10.2.1, w_10.2.2.1, w_10.2.2.2.1, w_10.2.2.2.2.1, w_10.2.2.2.2.2.1, w_10.2.2.2.2.2.2.1, w_10.2.2.2.2.2.2.2.1, w_10.2.2.2.2.2.2.2.2.1, w_10.2.2.2.2.2.2.2.2.2.1, w_10.2.2.2.2.2.2.2.2.2.2.1, w_10.2.2.2.2.2.2.2.2.2.2.2.1, w_10.2.2.2.2.2.2.2.2.2.2.2.2.1, w_10.2.2.2.2.2.2.2.2.2.2.2.2.2.1, w_10.2.2.2.2.2.2.2.2.2.2.2.2.2.2.1, w_10.2.2.2.2.2.2.2.2.2.2.2.2.2.2.2.1, w_10.2.2.2.2.2.2.2.2.2.2.2.2.2.2.2.2.1, w_10.2.2.2.2.2.2.2.2.2.2.2.2.2.2.2.2.2.1, w_10.2.2.2.2.2.2.2.2.2.2.2.2.2.2.2.2.2.2.1, w_10.2.2.2.2.2.2.2.2.2.2.2.2.2.2.2.2.2.2.2.1, w_10.2.2.2.2.2.2.2.2.2.2.2.2.2.2.2.2.2.2.2.2, w_10.1.toInt64)))
abbrev hL_best : Cond := .codeWith yL_best cL_best 4 (some .int) [(0, 10, 13, 19)]
theorem mL_best : yM yL_best hL_best 3 := ⟨u_1182, u_56, by decide +kernel, by decide +kernel, by decide +kernel⟩
theorem yc_L_best_0 : yCatch RL [(0, 10, 13, 19)] 3 (yE 0) 13 := ⟨(tableOf [(0, 10, 13, 19)]).take 0, (tableOf [(0, 10, 13, 19)])[0]'(by decide +kernel), (tableOf [(0, 10, 13, 19)]).drop 1, "java/lang/IllegalArgumentException", by rfl, fun z hz => absurd hz List.not_mem_nil, by decide +kernel, by decide +kernel, u_566, by decide +kernel, by rfl⟩
set_option maxHeartbeats 4000000 in
set_option maxRecDepth 100000 in
theorem kL_best (l : Launch) (D : va_G) (cy : Nat → ClassId) (hl0 : l.stackTraces = false) (x : Nat) (xj : Nat) (xw : Nat) (xz : Nat) (xo : Nat) (xy : Nat) (xt : Nat) (xja : Nat) (xjb : Nat) (xjr : Int32) (xjk : Int32) (xjc : Int32) (xjg : Int32) (xjs : Int32) (xjan : Nat) (xjaf : Nat → Int32) (xjbn : Nat) (xjbf : Nat → Int32) (xwu : Nat) (xwm : Nat) (xwb : Int32) (xwk : Int32) (xy0 : Int32) (xy1 : Int32) (xy2 : Int32) (xy3 : Int32) (xy4 : Int32) (xy5 : Int32) (xy6 : Int32) (xy7 : Int32) (xy8 : Int32) (xy9 : Int32) (xt0 : Int32) (xt1 : Int32) (xt2 : Int32) (xt3 : Int32) (xt4 : Int32) (xt5 : Int32) (xt6 : Int32) (xt7 : Int32) (xt8 : Int32) (xt9 : Int32) (o : Nat) (on : Int64) (os : Value) (i1 : Int32) {res : Int32 × Int32 × Int32 × Int32 × Int32 × Int32 × Int32 × Int32 × Int32 × Int32 × Int32 × Int32 × Int32 × Int32 × Int32 × Int32 × Int32 × Int32 × Int32 × Int32 × Int32 × Int64} (hR : fL_best xjr xjk xjc xjg xjs xjaf xjbf xwk xy0 xy1 xy2 xy3 xy4 xy5 xy6 xy7 xy8 xy9 xt0 xt1 xt2 xt3 xt4 xt5 xt6 xt7 xt8 xt9 on i1 = some res) : YM l D cy yL_best hL_best 8 1 6 [.ref x, .int i1, .ref o] [[(x, .inr (8, [.ref xj, .ref xw, .ref xz, .ref xo, .ref xy, .ref xt]))], [(xj, .inr (3, [.ref xja, .ref xjb, .int xjr, .int xjk, .int xjc, .int xjg, .int xjs]))], [(xja, .inr (6, [.ref xjan]))], [(xjan, .inl (cy 1, 81, .inl xjaf))], [(xjb, .inr (6, [.ref xjbn]))], [(xjbn, .inl (cy 1, 81, .inl xjbf))], [(xw, .inr (2, [.ref xwu, .ref xwm, .int xwb, .int xwk]))], [(xy, .inr (4, [.int xy0, .int xy1, .int xy2, .int xy3, .int xy4, .int xy5, .int xy6, .int xy7, .int xy8, .int xy9]))], [(xt, .inr (4, [.int xt0, .int xt1, .int xt2, .int xt3, .int xt4, .int xt5, .int xt6, .int xt7, .int xt8, .int xt9]))], [(o, .inr (9, [.long on, os]))]] (fun v u => v = some (.int res.1) ∧ u = [[(x, .inr (8, [.ref xj, .ref xw, .ref xz, .ref xo, .ref xy, .ref xt]))], [(xj, .inr (3, [.ref xja, .ref xjb, .int xjr, .int xjk, .int xjc, .int xjg, .int xjs]))], [(xja, .inr (6, [.ref xjan]))], [(xjan, .inl (cy 1, 81, .inl xjaf))], [(xjb, .inr (6, [.ref xjbn]))], [(xjbn, .inl (cy 1, 81, .inl xjbf))], [(xw, .inr (2, [.ref xwu, .ref xwm, .int xwb, .int xwk]))], [(xy, .inr (4, [.int res.2.1, .int res.2.2.1, .int res.2.2.2.1, .int res.2.2.2.2.1, .int res.2.2.2.2.2.1, .int res.2.2.2.2.2.2.1, .int res.2.2.2.2.2.2.2.1, .int res.2.2.2.2.2.2.2.2.1, .int res.2.2.2.2.2.2.2.2.2.1, .int res.2.2.2.2.2.2.2.2.2.2.1]))], [(xt, .inr (4, [.int res.2.2.2.2.2.2.2.2.2.2.2.1, .int res.2.2.2.2.2.2.2.2.2.2.2.2.1, .int res.2.2.2.2.2.2.2.2.2.2.2.2.2.1, .int res.2.2.2.2.2.2.2.2.2.2.2.2.2.2.1, .int res.2.2.2.2.2.2.2.2.2.2.2.2.2.2.2.1, .int res.2.2.2.2.2.2.2.2.2.2.2.2.2.2.2.2.1, .int res.2.2.2.2.2.2.2.2.2.2.2.2.2.2.2.2.2.1, .int res.2.2.2.2.2.2.2.2.2.2.2.2.2.2.2.2.2.2.1, .int res.2.2.2.2.2.2.2.2.2.2.2.2.2.2.2.2.2.2.2.1, .int res.2.2.2.2.2.2.2.2.2.2.2.2.2.2.2.2.2.2.2.2.1]))], [(o, .inr (9, [.long res.2.2.2.2.2.2.2.2.2.2.2.2.2.2.2.2.2.2.2.2.2, os]))]]) := by
  unfold fL_best at hR
  refine YM.ofIW (cc := cL_best) (maxL := 4) (hh := [(0, 10, 13, 19)]) (by decide +kernel) rfl (Nat.le_of_ble_eq_true rfl) [(0, .ref x), (1, .int i1), (2, .ref o)] rfl  (fun p e s m args below meth c A H0 Q C htab ret => ?_)
  refine xr_aload_n (n := 1) (j := 2) C dd_L_best_0.1 rfl rfl ?_
  refine xr_aload_n (n := 2) (j := 0) C dd_L_best_0.2.1 rfl rfl ?_
  refine xr_iload_n (n := 3) (j := 1) C dd_L_best_0.2.2.1 rfl rfl ?_
  obtain ⟨x_1, hx_1, hR⟩ := yf_b hR
  refine xr_callVX (n := 6) (As := [.int i1]) (rest := [.ref o]) C htab (kX6_best l D cy hl0 (x := x) (xj := xj) (xw := xw) (xz := xz) (xo := xo) (xy := xy) (xt := xt) (xja := xja) (xjb := xjb) (xjr := xjr) (xjk := xjk) (xjc := xjc) (xjg := xjg) (xjs := xjs) (xjan := xjan) (xjaf := xjaf) (xjbn := xjbn) (xjbf := xjbf) (xwu := xwu) (xwm := xwm) (xwb := xwb) (xwk := xwk) (xy0 := xy0) (xy1 := xy1) (xy2 := xy2) (xy3 := xy3) (xy4 := xy4) (xy5 := xy5) (xy6 := xy6) (xy7 := xy7) (xy8 := xy8) (xy9 := xy9) (xt0 := xt0) (xt1 := xt1) (xt2 := xt2) (xt3 := xt3) (xt4 := xt4) (xt5 := xt5) (xt6 := xt6) (xt7 := xt7) (xt8 := xt8) (xt9 := xt9) (i1 := i1) hx_1) mX6_best u_1183 u_1184 u_1185 0 rfl rfl 10 [0, 1, 2, 3, 4, 5, 6, 7, 8] [9] rfl (by decide +kernel) rfl rfl rfl rfl (Nat.le_of_ble_eq_true rfl) (Nat.le_of_ble_eq_true rfl) (Nat.le_of_ble_eq_true rfl) (Nat.le_of_ble_eq_true rfl) (Nat.le_of_ble_eq_true rfl) dd_L_best_0.2.2.2.1 rfl (fun E_ u_5 hp_6 => ?_) (fun v_2 u_3 hp_4 => ?_)
  · obtain ⟨w_7, ew_7, rfl, rfl⟩ := hp_6
    subst ew_7
    replace hR := ybr_l hR
    by_cases c_8 : w_7 = 0
    · replace hR := yf_t c_8 hR
      refine ⟨13, by rw [c_8]; exact yc_L_best_0, fun q_9 => ?_⟩
      refine xr_perm C 10 [0, 1, 2, 3, 4, 5, 6, 7, 8, 9] [] [[(x, .inr (8, [.ref xj, .ref xw, .ref xz, .ref xo, .ref xy, .ref xt]))], [(xj, .inr (3, [.ref xja, .ref xjb, .int xjr, .int xjk, .int xjc, .int xjg, .int xjs]))], [(xja, .inr (6, [.ref xjan]))], [(xjan, .inl (cy 1, 81, .inl xjaf))], [(xjb, .inr (6, [.ref xjbn]))], [(xjbn, .inl (cy 1, 81, .inl xjbf))], [(xw, .inr (2, [.ref xwu, .ref xwm, .int xwb, .int xwk]))], [(xy, .inr (4, [.int xy0, .int xy1, .int xy2, .int xy3, .int xy4, .int xy5, .int xy6, .int xy7, .int xy8, .int xy9]))], [(xt, .inr (4, [.int xt0, .int xt1, .int xt2, .int xt3, .int xt4, .int xt5, .int xt6, .int xt7, .int xt8, .int xt9]))], [(o, .inr (9, [.long on, os]))]] rfl (by decide +kernel) rfl ?_
      refine xr_astore_n (n := 14) C [(3, .ref q_9), (0, .ref x), (1, .int i1), (2, .ref o)] dd_L_best_0.2.2.2.2.2.2.2.1 (by decide) rfl rfl ?_
      refine xr_iconst (n := 15) (v := 1) C dd_L_best_0.2.2.2.2.2.2.2.2.1 rfl rfl ?_
      obtain rfl := Option.some.inj hR
      exact ret 1 ⟨rfl, rfl⟩ (Nat.le_of_ble_eq_true rfl) (Nat.le_of_ble_eq_true rfl) dd_L_best_0.2.2.2.2.2.2.2.2.2.1
    replace hR := yf_f c_8 hR
    cases hR
  · obtain ⟨w_10, ew_10, rfl, rfl⟩ := hp_4
    subst ew_10
    replace hR := ybr_r hR
    refine xr_perm C 10 [0, 1, 2, 3, 4, 5, 6, 7, 8, 9] [] [[(x, .inr (8, [.ref xj, .ref xw, .ref xz, .ref xo, .ref xy, .ref xt]))], [(xj, .inr (3, [.ref xja, .ref xjb, .int xjr, .int xjk, .int xjc, .int xjg, .int xjs]))], [(xja, .inr (6, [.ref xjan]))], [(xjan, .inl (cy 1, 81, .inl xjaf))], [(xjb, .inr (6, [.ref xjbn]))], [(xjbn, .inl (cy 1, 81, .inl xjbf))], [(xw, .inr (2, [.ref xwu, .ref xwm, .int xwb, .int xwk]))], [(xy, .inr (4, [.int w_10.2.1, .int w_10.2.2.1, .int w_10.2.2.2.1, .int w_10.2.2.2.2.1, .int w_10.2.2.2.2.2.1, .int w_10.2.2.2.2.2.2.1, .int w_10.2.2.2.2.2.2.2.1, .int w_10.2.2.2.2.2.2.2.2.1, .int w_10.2.2.2.2.2.2.2.2.2.1, .int w_10.2.2.2.2.2.2.2.2.2.2.1]))], [(xt, .inr (4, [.int w_10.2.2.2.2.2.2.2.2.2.2.2.1, .int w_10.2.2.2.2.2.2.2.2.2.2.2.2.1, .int w_10.2.2.2.2.2.2.2.2.2.2.2.2.2.1, .int w_10.2.2.2.2.2.2.2.2.2.2.2.2.2.2.1, .int w_10.2.2.2.2.2.2.2.2.2.2.2.2.2.2.2.1, .int w_10.2.2.2.2.2.2.2.2.2.2.2.2.2.2.2.2.1, .int w_10.2.2.2.2.2.2.2.2.2.2.2.2.2.2.2.2.2.1, .int w_10.2.2.2.2.2.2.2.2.2.2.2.2.2.2.2.2.2.2.1, .int w_10.2.2.2.2.2.2.2.2.2.2.2.2.2.2.2.2.2.2.2.1, .int w_10.2.2.2.2.2.2.2.2.2.2.2.2.2.2.2.2.2.2.2.2]))], [(o, .inr (9, [.long on, os]))]] rfl (by decide +kernel) rfl ?_
    refine xr_st (st' := [.int w_10.1, .ref o]) rfl ?_
    refine xr_i2l (n := 7) C dd_L_best_0.2.2.2.2.1 rfl ?_
    refine xr_putN (n := 10) C 9 rfl rfl 0 (by decide) in_X7 tyX7 tyX7_ok nmX7 RL (List.mem_of_getElem? (i := 46) rfl) rfl rfl rfl rfl (Nat.le_of_ble_eq_true rfl) [[(x, .inr (8, [.ref xj, .ref xw, .ref xz, .ref xo, .ref xy, .ref xt]))], [(xj, .inr (3, [.ref xja, .ref xjb, .int xjr, .int xjk, .int xjc, .int xjg, .int xjs]))], [(xja, .inr (6, [.ref xjan]))], [(xjan, .inl (cy 1, 81, .inl xjaf))], [(xjb, .inr (6, [.ref xjbn]))], [(xjbn, .inl (cy 1, 81, .inl xjbf))], [(xw, .inr (2, [.ref xwu, .ref xwm, .int xwb, .int xwk]))], [(xy, .inr (4, [.int w_10.2.1, .int w_10.2.2.1, .int w_10.2.2.2.1, .int w_10.2.2.2.2.1, .int w_10.2.2.2.2.2.1, .int w_10.2.2.2.2.2.2.1, .int w_10.2.2.2.2.2.2.2.1, .int w_10.2.2.2.2.2.2.2.2.1, .int w_10.2.2.2.2.2.2.2.2.2.1, .int w_10.2.2.2.2.2.2.2.2.2.2.1]))], [(xt, .inr (4, [.int w_10.2.2.2.2.2.2.2.2.2.2.2.1, .int w_10.2.2.2.2.2.2.2.2.2.2.2.2.1, .int w_10.2.2.2.2.2.2.2.2.2.2.2.2.2.1, .int w_10.2.2.2.2.2.2.2.2.2.2.2.2.2.2.1, .int w_10.2.2.2.2.2.2.2.2.2.2.2.2.2.2.2.1, .int w_10.2.2.2.2.2.2.2.2.2.2.2.2.2.2.2.2.1, .int w_10.2.2.2.2.2.2.2.2.2.2.2.2.2.2.2.2.2.1, .int w_10.2.2.2.2.2.2.2.2.2.2.2.2.2.2.2.2.2.2.1, .int w_10.2.2.2.2.2.2.2.2.2.2.2.2.2.2.2.2.2.2.2.1, .int w_10.2.2.2.2.2.2.2.2.2.2.2.2.2.2.2.2.2.2.2.2]))], [(o, .inr (9, [.long w_10.1.toInt64, os]))]] rfl rfl dd_L_best_0.2.2.2.2.2.1 ?_
    refine xr_goto (tgt := 16) C dd_L_best_0.2.2.2.2.2.2.1 rfl ?_
    refine xr_iconst (n := 17) (v := 0) C dd_L_best_0.2.2.2.2.2.2.2.2.2.2.1 rfl rfl ?_
    obtain rfl := Option.some.inj hR
    exact ret 0 ⟨rfl, rfl⟩ (Nat.le_of_ble_eq_true rfl) (Nat.le_of_ble_eq_true rfl) dd_L_best_0.2.2.2.2.2.2.2.2.2.2.2.1
