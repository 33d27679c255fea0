theorem u_567 : Cond.methodLink RL 7 yX6_shape ∈ yU := yu_tables_1_3 31 (by decide +kernel) (by decide +kernel)
theorem u_568 : Cond.instanceMethod yX6_shape ∈ yU := yu_tables_1_3 32 (by decide +kernel) (by decide +kernel)
theorem u_569 : Cond.selects RX6 yX6_shape yX6_shape ∈ yU := yu_tables_1_3 33 (by decide +kernel) (by decide +kernel)
theorem u_565 : Cond.codeWith yL_shape cL_shape 6 (some .int) [(0, 13, 16, 19)] ∈ yU := yu_tables_1_3 29 (by decide +kernel) (by decide +kernel)
theorem u_56 : Cond.initialized RL ∈ yU := yu_tables_1_1 0 (by decide +kernel) (by decide +kernel)
theorem u_566 : Cond.classLink RL 19 "java/lang/IllegalArgumentException" ∈ yU := yu_tables_1_3 30 (by decide +kernel) (by decide +kernel)
theorem u_655 : Cond.methodLink RL 21 yX6_left ∈ yU := yu_tables_1_3 119 (by decide +kernel) (by decide +kernel)
theorem u_656 : Cond.instanceMethod yX6_left ∈ yU := yu_tables_1_3 120 (by decide +kernel) (by decide +kernel)
theorem u_657 : Cond.selects RX6 yX6_left yX6_left ∈ yU := yu_tables_1_3 121 (by decide +kernel) (by decide +kernel)
theorem u_653 : Cond.codeWith yL_left cL_left 6 (some .int) [(0, 13, 16, 24), (0, 13, 20, 19)] ∈ yU := yu_tables_1_3 117 (by decide +kernel) (by decide +kernel)
theorem u_654 : Cond.classLink RL 24 "java/lang/IndexOutOfBoundsException" ∈ yU := yu_tables_1_3 118 (by decide +kernel) (by decide +kernel)
theorem u_686 : Cond.methodLink RL 26 yX6_top ∈ yU := yu_tables_1_3 150 (by decide +kernel) (by decide +kernel)
theorem u_687 : Cond.instanceMethod yX6_top ∈ yU := yu_tables_1_3 151 (by decide +kernel) (by decide +kernel)
theorem u_688 : Cond.selects RX6 yX6_top yX6_top ∈ yU := yu_tables_1_3 152 (by decide +kernel) (by decide +kernel)
theorem u_685 : Cond.codeWith yL_top cL_top 6 (some .int) [(0, 13, 16, 24), (0, 13, 20, 19)] ∈ yU := yu_tables_1_3 149 (by decide +kernel) (by decide +kernel)
theorem u_694 : Cond.methodLink RL 29 yX6_kind ∈ yU := yu_tables_1_3 158 (by decide +kernel) (by decide +kernel)
theorem u_695 : Cond.instanceMethod yX6_kind ∈ yU := yu_tables_1_3 159 (by decide +kernel) (by decide +kernel)
theorem u_696 : Cond.selects RX6 yX6_kind yX6_kind ∈ yU := yu_tables_1_3 160 (by decide +kernel) (by decide +kernel)
theorem u_693 : Cond.codeWith yL_kind cL_kind 4 (some .int) [(0, 10, 13, 19)] ∈ yU := yu_tables_1_3 157 (by decide +kernel) (by decide +kernel)
theorem u_703 : Cond.methodLink RL 33 yX6_checked ∈ yU := yu_tables_1_3 167 (by decide +kernel) (by decide +kernel)
theorem u_704 : Cond.instanceMethod yX6_checked ∈ yU := yu_tables_1_3 168 (by decide +kernel) (by decide +kernel)
theorem u_705 : Cond.selects RX6 yX6_checked yX6_checked ∈ yU := yu_tables_1_3 169 (by decide +kernel) (by decide +kernel)
theorem u_701 : Cond.codeWith yL_checked cL_checked 4 (some .int) [(0, 17, 20, 37)] ∈ yU := yu_tables_1_3 165 (by decide +kernel) (by decide +kernel)
theorem u_702 : Cond.classLink RL 37 "java/lang/IllegalStateException" ∈ yU := yu_tables_1_3 166 (by decide +kernel) (by decide +kernel)
theorem u_726 : Cond.methodLink RL 39 yX6_broken ∈ yU := yu_tables_1_3 190 (by decide +kernel) (by decide +kernel)
theorem u_727 : Cond.instanceMethod yX6_broken ∈ yU := yu_tables_1_3 191 (by decide +kernel) (by decide +kernel)
theorem u_728 : Cond.selects RX6 yX6_broken yX6_broken ∈ yU := yu_tables_1_3 192 (by decide +kernel) (by decide +kernel)
theorem u_725 : Cond.codeWith yL_broken cL_broken 6 (some .int) [(0, 13, 16, 24)] ∈ yU := yu_tables_1_3 189 (by decide +kernel) (by decide +kernel)
theorem dd_L_shape_0 : dk_R cL_shape [(0, .aload 4, 2), (2, .aload_n 0, 1), (3, .iload_n 1, 1), (4, .iload_n 2, 1), (5, .iload_n 3, 1), (6, .invokevirtual 7, 3), (9, .i2l, 1), (10, .putfield 13, 3), (13, .goto 7, 3), (16, .astore 5, 2), (18, .iconst 1, 1), (19, .ireturn, 1), (20, .iconst 0, 1), (21, .ireturn, 1)] := dk_use _ _ (by decide +kernel)
def fL_shape (xjr : Int32) (xjk : Int32) (xjc : Int32) (xjaf : Nat → Int32) (xjbf : Nat → Int32) (on : Int64) (i1 : Int32) (i2 : Int32) (i3 : Int32) : Option (Int32 × Int32 × Int32 × Int32 × (Nat → Int32) × (Nat → Int32) × Int64) := ((fX6_shape xjr xjk xjc xjaf xjbf i1 i2 i3).bind fun x_1 => ybr x_1 (fun w_7 => (if w_7 = 0 then some (1, xjr, xjk, xjc, xjaf, xjbf, on) else none)) (fun w_10 => some (0, w_10.2.1, w_10.2.2.1, w_10.2.2.2.1, w_10.2.2.2.2.1, w_10.2.2.2.2.2, w_10.1.toInt64)))
abbrev hL_shape : Cond := .codeWith yL_shape cL_shape 6 (some .int) [(0, 13, 16, 19)]
theorem mL_shape : yM yL_shape hL_shape 5 := ⟨u_565, u_56, by decide +kernel, by decide +kernel, by decide +kernel⟩
theorem yc_L_shape_0 : yCatch RL [(0, 13, 16, 19)] 6 (yE 0) 16 := ⟨(tableOf [(0, 13, 16, 19)]).take 0, (tableOf [(0, 13, 16, 19)])[0]'(by decide +kernel), (tableOf [(0, 13, 16, 19)]).drop 1, "java/lang/IllegalArgumentException", by rfl, fun z hz => absurd hz List.not_mem_nil, by decide +kernel, by decide +kernel, u_566, by decide +kernel, by rfl⟩
set_option maxHeartbeats 4000000 in
set_option maxRecDepth 100000 in
theorem kL_shape (l : Launch) (D : va_G) (cy : Nat → ClassId) (hl0 : l.stackTraces = false) (x : Nat) (xj : Nat) (xw : Nat) (xz : Nat) (xo : Nat) (xy : Nat) (xt : Nat) (xja : Nat) (xjb : Nat) (xjr : Int32) (xjk : Int32) (xjc : Int32) (xjg : Int32) (xjs : Int32) (xjan : Nat) (xjaf : Nat → Int32) (xjbn : Nat) (xjbf : Nat → Int32) (o : Nat) (on : Int64) (os : Value) (i1 : Int32) (i2 : Int32) (i3 : Int32) {res : Int32 × Int32 × Int32 × Int32 × (Nat → Int32) × (Nat → Int32) × Int64} (hR : fL_shape xjr xjk xjc xjaf xjbf on i1 i2 i3 = some res) : YM l D cy yL_shape hL_shape 7 1 6 [.ref x, .int i1, .int i2, .int i3, .ref o] [[(x, .inr (8, [.ref xj, .ref xw, .ref xz, .ref xo, .ref xy, .ref xt]))], [(xj, .inr (3, [.ref xja, .ref xjb, .int xjr, .int xjk, .int xjc, .int xjg, .int xjs]))], [(xja, .inr (6, [.ref xjan]))], [(xjan, .inl (cy 1, 81, .inl xjaf))], [(xjb, .inr (6, [.ref xjbn]))], [(xjbn, .inl (cy 1, 81, .inl xjbf))], [(o, .inr (9, [.long on, os]))]] (fun v u => v = some (.int res.1) ∧ u = [[(x, .inr (8, [.ref xj, .ref xw, .ref xz, .ref xo, .ref xy, .ref xt]))], [(xj, .inr (3, [.ref xja, .ref xjb, .int res.2.1, .int res.2.2.1, .int res.2.2.2.1, .int xjg, .int xjs]))], [(xja, .inr (6, [.ref xjan]))], [(xjan, .inl (cy 1, 81, .inl res.2.2.2.2.1))], [(xjb, .inr (6, [.ref xjbn]))], [(xjbn, .inl (cy 1, 81, .inl res.2.2.2.2.2.1))], [(o, .inr (9, [.long res.2.2.2.2.2.2, os]))]]) := by
  unfold fL_shape at hR
  refine YM.ofIW (cc := cL_shape) (maxL := 6) (hh := [(0, 13, 16, 19)]) (by decide +kernel) rfl (Nat.le_of_ble_eq_true rfl) [(0, .ref x), (1, .int i1), (2, .int i2), (3, .int i3), (4, .ref o)] rfl  (fun p e s m args below meth c A H0 Q C htab ret => ?_)
  refine xr_aload (n := 2) (j := 4) C dd_L_shape_0.1 rfl rfl ?_
  refine xr_aload_n (n := 3) (j := 0) C dd_L_shape_0.2.1 rfl rfl ?_
  refine xr_iload_n (n := 4) (j := 1) C dd_L_shape_0.2.2.1 rfl rfl ?_
  refine xr_iload_n (n := 5) (j := 2) C dd_L_shape_0.2.2.2.1 rfl rfl ?_
  refine xr_iload_n (n := 6) (j := 3) C dd_L_shape_0.2.2.2.2.1 rfl rfl ?_
  obtain ⟨x_1, hx_1, hR⟩ := yf_b hR
  refine xr_callVX (n := 9) (As := [.int i1, .int i2, .int i3]) (rest := [.ref o]) C htab (kX6_shape l D cy hl0 (x := x) (xj := xj) (xw := xw) (xz := xz) (xo := xo) (xy := xy) (xt := xt) (xja := xja) (xjb := xjb) (xjr := xjr) (xjk := xjk) (xjc := xjc) (xjg := xjg) (xjs := xjs) (xjan := xjan) (xjaf := xjaf) (xjbn := xjbn) (xjbf := xjbf) (i1 := i1) (i2 := i2) (i3 := i3) hx_1) mX6_shape u_567 u_568 u_569 0 rfl rfl 7 [0, 1, 2, 3, 4, 5] [6] rfl (by decide +kernel) rfl rfl rfl rfl (Nat.le_of_ble_eq_true rfl) (Nat.le_of_ble_eq_true rfl) (Nat.le_of_ble_eq_true rfl) (Nat.le_of_ble_eq_true rfl) (Nat.le_of_ble_eq_true rfl) dd_L_shape_0.2.2.2.2.2.1 rfl (fun E_ u_5 hp_6 => ?_) (fun v_2 u_3 hp_4 => ?_)
  · obtain ⟨w_7, ew_7, rfl, rfl⟩ := hp_6
    subst ew_7
    replace hR := ybr_l hR
    by_cases c_8 : w_7 = 0
    · replace hR := yf_t c_8 hR
      refine ⟨16, by rw [c_8]; exact yc_L_shape_0, fun q_9 => ?_⟩
      refine xr_perm C 7 [0, 1, 2, 3, 4, 5, 6] [] [[(x, .inr (8, [.ref xj, .ref xw, .ref xz, .ref xo, .ref xy, .ref xt]))], [(xj, .inr (3, [.ref xja, .ref xjb, .int xjr, .int xjk, .int xjc, .int xjg, .int xjs]))], [(xja, .inr (6, [.ref xjan]))], [(xjan, .inl (cy 1, 81, .inl xjaf))], [(xjb, .inr (6, [.ref xjbn]))], [(xjbn, .inl (cy 1, 81, .inl xjbf))], [(o, .inr (9, [.long on, os]))]] rfl (by decide +kernel) rfl ?_
      refine xr_astore (n := 18) C [(5, .ref q_9), (0, .ref x), (1, .int i1), (2, .int i2), (3, .int i3), (4, .ref o)] dd_L_shape_0.2.2.2.2.2.2.2.2.2.1 (by decide) rfl rfl ?_
      refine xr_iconst (n := 19) (v := 1) C dd_L_shape_0.2.2.2.2.2.2.2.2.2.2.1 rfl rfl ?_
      obtain rfl := Option.some.inj hR
      exact ret 1 ⟨rfl, rfl⟩ (Nat.le_of_ble_eq_true rfl) (Nat.le_of_ble_eq_true rfl) dd_L_shape_0.2.2.2.2.2.2.2.2.2.2.2.1
    replace hR := yf_f c_8 hR
    cases hR
  · obtain ⟨w_10, ew_10, rfl, rfl⟩ := hp_4
    subst ew_10
    replace hR := ybr_r hR
    refine xr_perm C 7 [0, 1, 2, 3, 4, 5, 6] [] [[(x, .inr (8, [.ref xj, .ref xw, .ref xz, .ref xo, .ref xy, .ref xt]))], [(xj, .inr (3, [.ref xja, .ref xjb, .int w_10.2.1, .int w_10.2.2.1, .int w_10.2.2.2.1, .int xjg, .int xjs]))], [(xja, .inr (6, [.ref xjan]))], [(xjan, .inl (cy 1, 81, .inl w_10.2.2.2.2.1))], [(xjb, .inr (6, [.ref xjbn]))], [(xjbn, .inl (cy 1, 81, .inl w_10.2.2.2.2.2))], [(o, .inr (9, [.long on, os]))]] rfl (by decide +kernel) rfl ?_
    refine xr_st (st' := [.int w_10.1, .ref o]) rfl ?_
    refine xr_i2l (n := 10) C dd_L_shape_0.2.2.2.2.2.2.1 rfl ?_
    refine xr_putN (n := 13) C 6 rfl rfl 0 (by decide) in_X7 tyX7 tyX7_ok nmX7 RL (List.mem_of_getElem? (i := 46) rfl) rfl rfl rfl rfl (Nat.le_of_ble_eq_true rfl) [[(x, .inr (8, [.ref xj, .ref xw, .ref xz, .ref xo, .ref xy, .ref xt]))], [(xj, .inr (3, [.ref xja, .ref xjb, .int w_10.2.1, .int w_10.2.2.1, .int w_10.2.2.2.1, .int xjg, .int xjs]))], [(xja, .inr (6, [.ref xjan]))], [(xjan, .inl (cy 1, 81, .inl w_10.2.2.2.2.1))], [(xjb, .inr (6, [.ref xjbn]))], [(xjbn, .inl (cy 1, 81, .inl w_10.2.2.2.2.2))], [(o, .inr (9, [.long w_10.1.toInt64, os]))]] rfl rfl dd_L_shape_0.2.2.2.2.2.2.2.1 ?_
    refine xr_goto (tgt := 20) C dd_L_shape_0.2.2.2.2.2.2.2.2.1 rfl ?_
    refine xr_iconst (n := 21) (v := 0) C dd_L_shape_0.2.2.2.2.2.2.2.2.2.2.2.2.1 rfl rfl ?_
    obtain rfl := Option.some.inj hR
    exact ret 0 ⟨rfl, rfl⟩ (Nat.le_of_ble_eq_true rfl) (Nat.le_of_ble_eq_true rfl) dd_L_shape_0.2.2.2.2.2.2.2.2.2.2.2.2.2.1
theorem dd_L_left_0 : dk_R cL_left [(0, .aload 4, 2), (2, .aload_n 0, 1), (3, .iload_n 1, 1), (4, .iload_n 2, 1), (5, .iload_n 3, 1), (6, .invokevirtual 21, 3), (9, .i2l, 1), (10, .putfield 13, 3), (13, .goto 11, 3), (16, .astore 5, 2), (18, .iconst 1, 1), (19, .ireturn, 1), (20, .astore 5, 2), (22, .iconst 2, 1), (23, .ireturn, 1), (24, .iconst 0, 1)] := dk_use _ _ (by decide +kernel)
theorem dd_L_left_1 : dk_R cL_left [(25, .ireturn, 1)] := dk_use _ _ (by decide +kernel)
def fL_left (xjr : Int32) (xjk : Int32) (xjaf : Nat → Int32) (on : Int64) (i1 : Int32) (i2 : Int32) (i3 : Int32) : Option (Int32 × (Nat → Int32) × Int64) := ((fX6_left xjr xjk xjaf i1 i2 i3).bind fun x_1 => ybr x_1 (fun w_7 => (if w_7 = 0 then some (2, xjaf, on) else (if w_7 = 1 then some (1, xjaf, on) else none))) (fun w_12 => some (0, w_12.2, w_12.1.toInt64)))
abbrev hL_left : Cond := .codeWith yL_left cL_left 6 (some .int) [(0, 13, 16, 24), (0, 13, 20, 19)]
theorem mL_left : yM yL_left hL_left 5 := ⟨u_653, u_56, by decide +kernel, by decide +kernel, by decide +kernel⟩
theorem yc_L_left_0 : yCatch RL [(0, 13, 16, 24), (0, 13, 20, 19)] 6 (yE 0) 20 := ⟨(tableOf [(0, 13, 16, 24), (0, 13, 20, 19)]).take 1, (tableOf [(0, 13, 16, 24), (0, 13, 20, 19)])[1]'(by decide +kernel), (tableOf [(0, 13, 16, 24), (0, 13, 20, 19)]).drop 2, "java/lang/IllegalArgumentException", by rfl, fun z hz => by
    rw [List.mem_singleton.mp hz]
    exact Or.inr ⟨by decide +kernel, "java/lang/IndexOutOfBoundsException", u_654, by decide +kernel⟩, by decide +kernel, by decide +kernel, u_566, by decide +kernel, by rfl⟩
theorem yc_L_left_1 : yCatch RL [(0, 13, 16, 24), (0, 13, 20, 19)] 6 (yE 1) 16 := ⟨(tableOf [(0, 13, 16, 24), (0, 13, 20, 19)]).take 0, (tableOf [(0, 13, 16, 24), (0, 13, 20, 19)])[0]'(by decide +kernel), (tableOf [(0, 13, 16, 24), (0, 13, 20, 19)]).drop 1, "java/lang/IndexOutOfBoundsException", by rfl, fun z hz => absurd hz List.not_mem_nil, by decide +kernel, by decide +kernel, u_654, by decide +kernel, by rfl⟩
set_option maxHeartbeats 4000000 in
set_option maxRecDepth 100000 in
theorem kL_left (l : Launch) (D : va_G) (cy : Nat → ClassId) (hl0 : l.stackTraces = false) (x : Nat) (xj : Nat) (xw : Nat) (xz : Nat) (xo : Nat) (xy : Nat) (xt : Nat) (xja : Nat) (xjb : Nat) (xjr : Int32) (xjk : Int32) (xjc : Int32) (xjg : Int32) (xjs : Int32) (xjan : Nat) (xjaf : Nat → Int32) (o : Nat) (on : Int64) (os : Value) (i1 : Int32) (i2 : Int32) (i3 : Int32) {res : Int32 × (Nat → Int32) × Int64} (hR : fL_left xjr xjk xjaf on i1 i2 i3 = some res) : YM l D cy yL_left hL_left 7 1 6 [.ref x, .int i1, .int i2, .int i3, .ref o] [[(x, .inr (8, [.ref xj, .ref xw, .ref xz, .ref xo, .ref xy, .ref xt]))], [(xj, .inr (3, [.ref xja, .ref xjb, .int xjr, .int xjk, .int xjc, .int xjg, .int xjs]))], [(xja, .inr (6, [.ref xjan]))], [(xjan, .inl (cy 1, 81, .inl xjaf))], [(o, .inr (9, [.long on, os]))]] (fun v u => v = some (.int res.1) ∧ u = [[(x, .inr (8, [.ref xj, .ref xw, .ref xz, .ref xo, .ref xy, .ref xt]))], [(xj, .inr (3, [.ref xja, .ref xjb, .int xjr, .int xjk, .int xjc, .int xjg, .int xjs]))], [(xja, .inr (6, [.ref xjan]))], [(xjan, .inl (cy 1, 81, .inl res.2.1))], [(o, .inr (9, [.long res.2.2, os]))]]) := by
  unfold fL_left at hR
  refine YM.ofIW (cc := cL_left) (maxL := 6) (hh := [(0, 13, 16, 24), (0, 13, 20, 19)]) (by decide +kernel) rfl (Nat.le_of_ble_eq_true rfl) [(0, .ref x), (1, .int i1), (2, .int i2), (3, .int i3), (4, .ref o)] rfl  (fun p e s m args below meth c A H0 Q C htab ret => ?_)
  refine xr_aload (n := 2) (j := 4) C dd_L_left_0.1 rfl rfl ?_
  refine xr_aload_n (n := 3) (j := 0) C dd_L_left_0.2.1 rfl rfl ?_
  refine xr_iload_n (n := 4) (j := 1) C dd_L_left_0.2.2.1 rfl rfl ?_
  refine xr_iload_n (n := 5) (j := 2) C dd_L_left_0.2.2.2.1 rfl rfl ?_
  refine xr_iload_n (n := 6) (j := 3) C dd_L_left_0.2.2.2.2.1 rfl rfl ?_
  obtain ⟨x_1, hx_1, hR⟩ := yf_b hR
  refine xr_callVX (n := 9) (As := [.int i1, .int i2, .int i3]) (rest := [.ref o]) C htab (kX6_left l D cy hl0 (x := x) (xj := xj) (xw := xw) (xz := xz) (xo := xo) (xy := xy) (xt := xt) (xja := xja) (xjb := xjb) (xjr := xjr) (xjk := xjk) (xjc := xjc) (xjg := xjg) (xjs := xjs) (xjan := xjan) (xjaf := xjaf) (i1 := i1) (i2 := i2) (i3 := i3) hx_1) mX6_left u_655 u_656 u_657 0 rfl rfl 5 [0, 1, 2, 3] [4] rfl (by decide +kernel) rfl rfl rfl rfl (Nat.le_of_ble_eq_true rfl) (Nat.le_of_ble_eq_true rfl) (Nat.le_of_ble_eq_true rfl) (Nat.le_of_ble_eq_true rfl) (Nat.le_of_ble_eq_true rfl) dd_L_left_0.2.2.2.2.2.1 rfl (fun E_ u_5 hp_6 => ?_) (fun v_2 u_3 hp_4 => ?_)
  · obtain ⟨w_7, ew_7, rfl, rfl⟩ := hp_6
    subst ew_7
    replace hR := ybr_l hR
    by_cases c_8 : w_7 = 0
    · replace hR := yf_t c_8 hR
      refine ⟨20, by rw [c_8]; exact yc_L_left_0, fun q_9 => ?_⟩
      refine xr_perm C 5 [0, 1, 2, 3, 4] [] [[(x, .inr (8, [.ref xj, .ref xw, .ref xz, .ref xo, .ref xy, .ref xt]))], [(xj, .inr (3, [.ref xja, .ref xjb, .int xjr, .int xjk, .int xjc, .int xjg, .int xjs]))], [(xja, .inr (6, [.ref xjan]))], [(xjan, .inl (cy 1, 81, .inl xjaf))], [(o, .inr (9, [.long on, os]))]] rfl (by decide +kernel) rfl ?_
      refine xr_astore (n := 22) C [(5, .ref q_9), (0, .ref x), (1, .int i1), (2, .int i2), (3, .int i3), (4, .ref o)] dd_L_left_0.2.2.2.2.2.2.2.2.2.2.2.2.1 (by decide) rfl rfl ?_
      refine xr_iconst (n := 23) (v := 2) C dd_L_left_0.2.2.2.2.2.2.2.2.2.2.2.2.2.1 rfl rfl ?_
      obtain rfl := Option.some.inj hR
      exact ret 2 ⟨rfl, rfl⟩ (Nat.le_of_ble_eq_true rfl) (Nat.le_of_ble_eq_true rfl) dd_L_left_0.2.2.2.2.2.2.2.2.2.2.2.2.2.2.1
    replace hR := yf_f c_8 hR
    by_cases c_10 : w_7 = 1
    · replace hR := yf_t c_10 hR
      refine ⟨16, by rw [c_10]; exact yc_L_left_1, fun q_11 => ?_⟩
      refine xr_perm C 5 [0, 1, 2, 3, 4] [] [[(x, .inr (8, [.ref xj, .ref xw, .ref xz, .ref xo, .ref xy, .ref xt]))], [(xj, .inr (3, [.ref xja, .ref xjb, .int xjr, .int xjk, .int xjc, .int xjg, .int xjs]))], [(xja, .inr (6, [.ref xjan]))], [(xjan, .inl (cy 1, 81, .inl xjaf))], [(o, .inr (9, [.long on, os]))]] rfl (by decide +kernel) rfl ?_
      refine xr_astore (n := 18) C [(5, .ref q_11), (0, .ref x), (1, .int i1), (2, .int i2), (3, .int i3), (4, .ref o)] dd_L_left_0.2.2.2.2.2.2.2.2.2.1 (by decide) rfl rfl ?_
      refine xr_iconst (n := 19) (v := 1) C dd_L_left_0.2.2.2.2.2.2.2.2.2.2.1 rfl rfl ?_
      obtain rfl := Option.some.inj hR
      exact ret 1 ⟨rfl, rfl⟩ (Nat.le_of_ble_eq_true rfl) (Nat.le_of_ble_eq_true rfl) dd_L_left_0.2.2.2.2.2.2.2.2.2.2.2.1
    replace hR := yf_f c_10 hR
    cases hR
  · obtain ⟨w_12, ew_12, rfl, rfl⟩ := hp_4
    subst ew_12
    replace hR := ybr_r hR
    refine xr_perm C 5 [0, 1, 2, 3, 4] [] [[(x, .inr (8, [.ref xj, .ref xw, .ref xz, .ref xo, .ref xy, .ref xt]))], [(xj, .inr (3, [.ref xja, .ref xjb, .int xjr, .int xjk, .int xjc, .int xjg, .int xjs]))], [(xja, .inr (6, [.ref xjan]))], [(xjan, .inl (cy 1, 81, .inl w_12.2))], [(o, .inr (9, [.long on, os]))]] rfl (by decide +kernel) rfl ?_
    refine xr_st (st' := [.int w_12.1, .ref o]) rfl ?_
    refine xr_i2l (n := 10) C dd_L_left_0.2.2.2.2.2.2.1 rfl ?_
    refine xr_putN (n := 13) C 4 rfl rfl 0 (by decide) in_X7 tyX7 tyX7_ok nmX7 RL (List.mem_of_getElem? (i := 46) rfl) rfl rfl rfl rfl (Nat.le_of_ble_eq_true rfl) [[(x, .inr (8, [.ref xj, .ref xw, .ref xz, .ref xo, .ref xy, .ref xt]))], [(xj, .inr (3, [.ref xja, .ref xjb, .int xjr, .int xjk, .int xjc, .int xjg, .int xjs]))], [(xja, .inr (6, [.ref xjan]))], [(xjan, .inl (cy 1, 81, .inl w_12.2))], [(o, .inr (9, [.long w_12.1.toInt64, os]))]] rfl rfl dd_L_left_0.2.2.2.2.2.2.2.1 ?_
    refine xr_goto (tgt := 24) C dd_L_left_0.2.2.2.2.2.2.2.2.1 rfl ?_
    refine xr_iconst (n := 25) (v := 0) C dd_L_left_0.2.2.2.2.2.2.2.2.2.2.2.2.2.2.2.1 rfl rfl ?_
    obtain rfl := Option.some.inj hR
    exact ret 0 ⟨rfl, rfl⟩ (Nat.le_of_ble_eq_true rfl) (Nat.le_of_ble_eq_true rfl) dd_L_left_1.1
theorem dd_L_top_0 : dk_R cL_top [(0, .aload 4, 2), (2, .aload_n 0, 1), (3, .iload_n 1, 1), (4, .iload_n 2, 1), (5, .iload_n 3, 1), (6, .invokevirtual 26, 3), (9, .i2l, 1), (10, .putfield 13, 3), (13, .goto 11, 3), (16, .astore 5, 2), (18, .iconst 1, 1), (19, .ireturn, 1), (20, .astore 5, 2), (22, .iconst 2, 1), (23, .ireturn, 1), (24, .iconst 0, 1)] := dk_use _ _ (by decide +kernel)
theorem dd_L_top_1 : dk_R cL_top [(25, .ireturn, 1)] := dk_use _ _ (by decide +kernel)
def fL_top (xjk : Int32) (xjc : Int32) (xjbf : Nat → Int32) (on : Int64) (i1 : Int32) (i2 : Int32) (i3 : Int32) : Option (Int32 × (Nat → Int32) × Int64) := ((fX6_top xjk xjc xjbf i1 i2 i3).bind fun x_1 => ybr x_1 (fun w_7 => (if w_7 = 0 then some (2, xjbf, on) else (if w_7 = 1 then some (1, xjbf, on) else none))) (fun w_12 => some (0, w_12.2, w_12.1.toInt64)))
abbrev hL_top : Cond := .codeWith yL_top cL_top 6 (some .int) [(0, 13, 16, 24), (0, 13, 20, 19)]
theorem mL_top : yM yL_top hL_top 5 := ⟨u_685, u_56, by decide +kernel, by decide +kernel, by decide +kernel⟩
theorem yc_L_top_0 : yCatch RL [(0, 13, 16, 24), (0, 13, 20, 19)] 6 (yE 0) 20 := ⟨(tableOf [(0, 13, 16, 24), (0, 13, 20, 19)]).take 1, (tableOf [(0, 13, 16, 24), (0, 13, 20, 19)])[1]'(by decide +kernel), (tableOf [(0, 13, 16, 24), (0, 13, 20, 19)]).drop 2, "java/lang/IllegalArgumentException", by rfl, fun z hz => by
    rw [List.mem_singleton.mp hz]
    exact Or.inr ⟨by decide +kernel, "java/lang/IndexOutOfBoundsException", u_654, by decide +kernel⟩, by decide +kernel, by decide +kernel, u_566, by decide +kernel, by rfl⟩
theorem yc_L_top_1 : yCatch RL [(0, 13, 16, 24), (0, 13, 20, 19)] 6 (yE 1) 16 := ⟨(tableOf [(0, 13, 16, 24), (0, 13, 20, 19)]).take 0, (tableOf [(0, 13, 16, 24), (0, 13, 20, 19)])[0]'(by decide +kernel), (tableOf [(0, 13, 16, 24), (0, 13, 20, 19)]).drop 1, "java/lang/IndexOutOfBoundsException", by rfl, fun z hz => absurd hz List.not_mem_nil, by decide +kernel, by decide +kernel, u_654, by decide +kernel, by rfl⟩
set_option maxHeartbeats 4000000 in
set_option maxRecDepth 100000 in
theorem kL_top (l : Launch) (D : va_G) (cy : Nat → ClassId) (hl0 : l.stackTraces = false) (x : Nat) (xj : Nat) (xw : Nat) (xz : Nat) (xo : Nat) (xy : Nat) (xt : Nat) (xja : Nat) (xjb : Nat) (xjr : Int32) (xjk : Int32) (xjc : Int32) (xjg : Int32) (xjs : Int32) (xjbn : Nat) (xjbf : Nat → Int32) (o : Nat) (on : Int64) (os : Value) (i1 : Int32) (i2 : Int32) (i3 : Int32) {res : Int32 × (Nat → Int32) × Int64} (hR : fL_top xjk xjc xjbf on i1 i2 i3 = some res) : YM l D cy yL_top hL_top 7 1 6 [.ref x, .int i1, .int i2, .int i3, .ref o] [[(x, .inr (8, [.ref xj, .ref xw, .ref xz, .ref xo, .ref xy, .ref xt]))], [(xj, .inr (3, [.ref xja, .ref xjb, .int xjr, .int xjk, .int xjc, .int xjg, .int xjs]))], [(xjb, .inr (6, [.ref xjbn]))], [(xjbn, .inl (cy 1, 81, .inl xjbf))], [(o, .inr (9, [.long on, os]))]] (fun v u => v = some (.int res.1) ∧ u = [[(x, .inr (8, [.ref xj, .ref xw, .ref xz, .ref xo, .ref xy, .ref xt]))], [(xj, .inr (3, [.ref xja, .ref xjb, .int xjr, .int xjk, .int xjc, .int xjg, .int xjs]))], [(xjb, .inr (6, [.ref xjbn]))], [(xjbn, .inl (cy 1, 81, .inl res.2.1))], [(o, .inr (9, [.long res.2.2, os]))]]) := by
  unfold fL_top at hR
  refine YM.ofIW (cc := cL_top) (maxL := 6) (hh := [(0, 13, 16, 24), (0, 13, 20, 19)]) (by decide +kernel) rfl (Nat.le_of_ble_eq_true rfl) [(0, .ref x), (1, .int i1), (2, .int i2), (3, .int i3), (4, .ref o)] rfl  (fun p e s m args below meth c A H0 Q C htab ret => ?_)
  refine xr_aload (n := 2) (j := 4) C dd_L_top_0.1 rfl rfl ?_
  refine xr_aload_n (n := 3) (j := 0) C dd_L_top_0.2.1 rfl rfl ?_
  refine xr_iload_n (n := 4) (j := 1) C dd_L_top_0.2.2.1 rfl rfl ?_
  refine xr_iload_n (n := 5) (j := 2) C dd_L_top_0.2.2.2.1 rfl rfl ?_
  refine xr_iload_n (n := 6) (j := 3) C dd_L_top_0.2.2.2.2.1 rfl rfl ?_
  obtain ⟨x_1, hx_1, hR⟩ := yf_b hR
  refine xr_callVX (n := 9) (As := [.int i1, .int i2, .int i3]) (rest := [.ref o]) C htab (kX6_top l D cy hl0 (x := x) (xj := xj) (xw := xw) (xz := xz) (xo := xo) (xy := xy) (xt := xt) (xja := xja) (xjb := xjb) (xjr := xjr) (xjk := xjk) (xjc := xjc) (xjg := xjg) (xjs := xjs) (xjbn := xjbn) (xjbf := xjbf) (i1 := i1) (i2 := i2) (i3 := i3) hx_1) mX6_top u_686 u_687 u_688 0 rfl rfl 5 [0, 1, 2, 3] [4] rfl (by decide +kernel) rfl rfl rfl rfl (Nat.le_of_ble_eq_true rfl) (Nat.le_of_ble_eq_true rfl) (Nat.le_of_ble_eq_true rfl) (Nat.le_of_ble_eq_true rfl) (Nat.le_of_ble_eq_true rfl) dd_L_top_0.2.2.2.2.2.1 rfl (fun E_ u_5 hp_6 => ?_) (fun v_2 u_3 hp_4 => ?_)
  · obtain ⟨w_7, ew_7, rfl, rfl⟩ := hp_6
    subst ew_7
    replace hR := ybr_l hR
    by_cases c_8 : w_7 = 0
    · replace hR := yf_t c_8 hR
      refine ⟨20, by rw [c_8]; exact yc_L_top_0, fun q_9 => ?_⟩
      refine xr_perm C 5 [0, 1, 2, 3, 4] [] [[(x, .inr (8, [.ref xj, .ref xw, .ref xz, .ref xo, .ref xy, .ref xt]))], [(xj, .inr (3, [.ref xja, .ref xjb, .int xjr, .int xjk, .int xjc, .int xjg, .int xjs]))], [(xjb, .inr (6, [.ref xjbn]))], [(xjbn, .inl (cy 1, 81, .inl xjbf))], [(o, .inr (9, [.long on, os]))]] rfl (by decide +kernel) rfl ?_
      refine xr_astore (n := 22) C [(5, .ref q_9), (0, .ref x), (1, .int i1), (2, .int i2), (3, .int i3), (4, .ref o)] dd_L_top_0.2.2.2.2.2.2.2.2.2.2.2.2.1 (by decide) rfl rfl ?_
      refine xr_iconst (n := 23) (v := 2) C dd_L_top_0.2.2.2.2.2.2.2.2.2.2.2.2.2.1 rfl rfl ?_
      obtain rfl := Option.some.inj hR
      exact ret 2 ⟨rfl, rfl⟩ (Nat.le_of_ble_eq_true rfl) (Nat.le_of_ble_eq_true rfl) dd_L_top_0.2.2.2.2.2.2.2.2.2.2.2.2.2.2.1
    replace hR := yf_f c_8 hR
    by_cases c_10 : w_7 = 1
    · replace hR := yf_t c_10 hR
      refine ⟨16, by rw [c_10]; exact yc_L_top_1, fun q_11 => ?_⟩
      refine xr_perm C 5 [0, 1, 2, 3, 4] [] [[(x, .inr (8, [.ref xj, .ref xw, .ref xz, .ref xo, .ref xy, .ref xt]))], [(xj, .inr (3, [.ref xja, .ref xjb, .int xjr, .int xjk, .int xjc, .int xjg, .int xjs]))], [(xjb, .inr (6, [.ref xjbn]))], [(xjbn, .inl (cy 1, 81, .inl xjbf))], [(o, .inr (9, [.long on, os]))]] rfl (by decide +kernel) rfl ?_
      refine xr_astore (n := 18) C [(5, .ref q_11), (0, .ref x), (1, .int i1), (2, .int i2), (3, .int i3), (4, .ref o)] dd_L_top_0.2.2.2.2.2.2.2.2.2.1 (by decide) rfl rfl ?_
      refine xr_iconst (n := 19) (v := 1) C dd_L_top_0.2.2.2.2.2.2.2.2.2.2.1 rfl rfl ?_
      obtain rfl := Option.some.inj hR
      exact ret 1 ⟨rfl, rfl⟩ (Nat.le_of_ble_eq_true rfl) (Nat.le_of_ble_eq_true rfl) dd_L_top_0.2.2.2.2.2.2.2.2.2.2.2.1
    replace hR := yf_f c_10 hR
    cases hR
  · obtain ⟨w_12, ew_12, rfl, rfl⟩ := hp_4
    subst ew_12
    replace hR := ybr_r hR
    refine xr_perm C 5 [0, 1, 2, 3, 4] [] [[(x, .inr (8, [.ref xj, .ref xw, .ref xz, .ref xo, .ref xy, .ref xt]))], [(xj, .inr (3, [.ref xja, .ref xjb, .int xjr, .int xjk, .int xjc, .int xjg, .int xjs]))], [(xjb, .inr (6, [.ref xjbn]))], [(xjbn, .inl (cy 1, 81, .inl w_12.2))], [(o, .inr (9, [.long on, os]))]] rfl (by decide +kernel) rfl ?_
    refine xr_st (st' := [.int w_12.1, .ref o]) rfl ?_
    refine xr_i2l (n := 10) C dd_L_top_0.2.2.2.2.2.2.1 rfl ?_
    refine xr_putN (n := 13) C 4 rfl rfl 0 (by decide) in_X7 tyX7 tyX7_ok nmX7 RL (List.mem_of_getElem? (i := 46) rfl) rfl rfl rfl rfl (Nat.le_of_ble_eq_true rfl) [[(x, .inr (8, [.ref xj, .ref xw, .ref xz, .ref xo, .ref xy, .ref xt]))], [(xj, .inr (3, [.ref xja, .ref xjb, .int xjr, .int xjk, .int xjc, .int xjg, .int xjs]))], [(xjb, .inr (6, [.ref xjbn]))], [(xjbn, .inl (cy 1, 81, .inl w_12.2))], [(o, .inr (9, [.long w_12.1.toInt64, os]))]] rfl rfl dd_L_top_0.2.2.2.2.2.2.2.1 ?_
    refine xr_goto (tgt := 24) C dd_L_top_0.2.2.2.2.2.2.2.2.1 rfl ?_
    refine xr_iconst (n := 25) (v := 0) C dd_L_top_0.2.2.2.2.2.2.2.2.2.2.2.2.2.2.2.1 rfl rfl ?_
    obtain rfl := Option.some.inj hR
    exact ret 0 ⟨rfl, rfl⟩ (Nat.le_of_ble_eq_true rfl) (Nat.le_of_ble_eq_true rfl) dd_L_top_1.1
theorem dd_L_kind_0 : dk_R cL_kind [(0, .aload_n 2, 1), (1, .aload_n 0, 1), (2, .iload_n 1, 1), (3, .invokevirtual 29, 3), (6, .i2l, 1), (7, .putfield 13, 3), (10, .goto 6, 3), (13, .astore_n 3, 1), (14, .iconst 1, 1), (15, .ireturn, 1), (16, .iconst 0, 1), (17, .ireturn, 1)] := dk_use _ _ (by decide +kernel)
def fL_kind (xjg : Int32) (xjs : Int32) (on : Int64) (i1 : Int32) : Option (Int32 × Int32 × Int32 × Int64) := ((fX6_kind xjg xjs i1).bind fun x_1 => ybr x_1 (fun w_7 => (if w_7 = 0 then some (1, xjg, xjs, on) else none)) (fun w_10 => some (0, w_10.2.1, w_10.2.2, w_10.1.toInt64)))
abbrev hL_kind : Cond := .codeWith yL_kind cL_kind 4 (some .int) [(0, 10, 13, 19)]
theorem mL_kind : yM yL_kind hL_kind 3 := ⟨u_693, u_56, by decide +kernel, by decide +kernel, by decide +kernel⟩
theorem yc_L_kind_0 : yCatch RL [(0, 10, 13, 19)] 3 (yE 0) 13 := ⟨(tableOf [(0, 10, 13, 19)]).take 0, (tableOf [(0, 10, 13, 19)])[0]'(by decide +kernel), (tableOf [(0, 10, 13, 19)]).drop 1, "java/lang/IllegalArgumentException", by rfl, fun z hz => absurd hz List.not_mem_nil, by decide +kernel, by decide +kernel, u_566, by decide +kernel, by rfl⟩
set_option maxHeartbeats 4000000 in
set_option maxRecDepth 100000 in
theorem kL_kind (l : Launch) (D : va_G) (cy : Nat → ClassId) (hl0 : l.stackTraces = false) (x : Nat) (xj : Nat) (xw : Nat) (xz : Nat) (xo : Nat) (xy : Nat) (xt : Nat) (xja : Nat) (xjb : Nat) (xjr : Int32) (xjk : Int32) (xjc : Int32) (xjg : Int32) (xjs : Int32) (o : Nat) (on : Int64) (os : Value) (i1 : Int32) {res : Int32 × Int32 × Int32 × Int64} (hR : fL_kind xjg xjs on i1 = some res) : YM l D cy yL_kind hL_kind 7 1 6 [.ref x, .int i1, .ref o] [[(x, .inr (8, [.ref xj, .ref xw, .ref xz, .ref xo, .ref xy, .ref xt]))], [(xj, .inr (3, [.ref xja, .ref xjb, .int xjr, .int xjk, .int xjc, .int xjg, .int xjs]))], [(o, .inr (9, [.long on, os]))]] (fun v u => v = some (.int res.1) ∧ u = [[(x, .inr (8, [.ref xj, .ref xw, .ref xz, .ref xo, .ref xy, .ref xt]))], [(xj, .inr (3, [.ref xja, .ref xjb, .int xjr, .int xjk, .int xjc, .int res.2.1, .int res.2.2.1]))], [(o, .inr (9, [.long res.2.2.2, os]))]]) := by
  unfold fL_kind at hR
  refine YM.ofIW (cc := cL_kind) (maxL := 4) (hh := [(0, 10, 13, 19)]) (by decide +kernel) rfl (Nat.le_of_ble_eq_true rfl) [(0, .ref x), (1, .int i1), (2, .ref o)] rfl  (fun p e s m args below meth c A H0 Q C htab ret => ?_)
  refine xr_aload_n (n := 1) (j := 2) C dd_L_kind_0.1 rfl rfl ?_
  refine xr_aload_n (n := 2) (j := 0) C dd_L_kind_0.2.1 rfl rfl ?_
  refine xr_iload_n (n := 3) (j := 1) C dd_L_kind_0.2.2.1 rfl rfl ?_
  obtain ⟨x_1, hx_1, hR⟩ := yf_b hR
  refine xr_callVX (n := 6) (As := [.int i1]) (rest := [.ref o]) C htab (kX6_kind l D cy hl0 (x := x) (xj := xj) (xw := xw) (xz := xz) (xo := xo) (xy := xy) (xt := xt) (xja := xja) (xjb := xjb) (xjr := xjr) (xjk := xjk) (xjc := xjc) (xjg := xjg) (xjs := xjs) (i1 := i1) hx_1) mX6_kind u_694 u_695 u_696 0 rfl rfl 3 [0, 1] [2] rfl (by decide +kernel) rfl rfl rfl rfl (Nat.le_of_ble_eq_true rfl) (Nat.le_of_ble_eq_true rfl) (Nat.le_of_ble_eq_true rfl) (Nat.le_of_ble_eq_true rfl) (Nat.le_of_ble_eq_true rfl) dd_L_kind_0.2.2.2.1 rfl (fun E_ u_5 hp_6 => ?_) (fun v_2 u_3 hp_4 => ?_)
  · obtain ⟨w_7, ew_7, rfl, rfl⟩ := hp_6
    subst ew_7
    replace hR := ybr_l hR
    by_cases c_8 : w_7 = 0
    · replace hR := yf_t c_8 hR
      refine ⟨13, by rw [c_8]; exact yc_L_kind_0, fun q_9 => ?_⟩
      refine xr_perm C 3 [0, 1, 2] [] [[(x, .inr (8, [.ref xj, .ref xw, .ref xz, .ref xo, .ref xy, .ref xt]))], [(xj, .inr (3, [.ref xja, .ref xjb, .int xjr, .int xjk, .int xjc, .int xjg, .int xjs]))], [(o, .inr (9, [.long on, os]))]] rfl (by decide +kernel) rfl ?_
      refine xr_astore_n (n := 14) C [(3, .ref q_9), (0, .ref x), (1, .int i1), (2, .ref o)] dd_L_kind_0.2.2.2.2.2.2.2.1 (by decide) rfl rfl ?_
      refine xr_iconst (n := 15) (v := 1) C dd_L_kind_0.2.2.2.2.2.2.2.2.1 rfl rfl ?_
      obtain rfl := Option.some.inj hR
      exact ret 1 ⟨rfl, rfl⟩ (Nat.le_of_ble_eq_true rfl) (Nat.le_of_ble_eq_true rfl) dd_L_kind_0.2.2.2.2.2.2.2.2.2.1
    replace hR := yf_f c_8 hR
    cases hR
  · obtain ⟨w_10, ew_10, rfl, rfl⟩ := hp_4
    subst ew_10
    replace hR := ybr_r hR
    refine xr_perm C 3 [0, 1, 2] [] [[(x, .inr (8, [.ref xj, .ref xw, .ref xz, .ref xo, .ref xy, .ref xt]))], [(xj, .inr (3, [.ref xja, .ref xjb, .int xjr, .int xjk, .int xjc, .int w_10.2.1, .int w_10.2.2]))], [(o, .inr (9, [.long on, os]))]] rfl (by decide +kernel) rfl ?_
    refine xr_st (st' := [.int w_10.1, .ref o]) rfl ?_
    refine xr_i2l (n := 7) C dd_L_kind_0.2.2.2.2.1 rfl ?_
    refine xr_putN (n := 10) C 2 rfl rfl 0 (by decide) in_X7 tyX7 tyX7_ok nmX7 RL (List.mem_of_getElem? (i := 46) rfl) rfl rfl rfl rfl (Nat.le_of_ble_eq_true rfl) [[(x, .inr (8, [.ref xj, .ref xw, .ref xz, .ref xo, .ref xy, .ref xt]))], [(xj, .inr (3, [.ref xja, .ref xjb, .int xjr, .int xjk, .int xjc, .int w_10.2.1, .int w_10.2.2]))], [(o, .inr (9, [.long w_10.1.toInt64, os]))]] rfl rfl dd_L_kind_0.2.2.2.2.2.1 ?_
    refine xr_goto (tgt := 16) C dd_L_kind_0.2.2.2.2.2.2.1 rfl ?_
    refine xr_iconst (n := 17) (v := 0) C dd_L_kind_0.2.2.2.2.2.2.2.2.2.2.1 rfl rfl ?_
    obtain rfl := Option.some.inj hR
    exact ret 0 ⟨rfl, rfl⟩ (Nat.le_of_ble_eq_true rfl) (Nat.le_of_ble_eq_true rfl) dd_L_kind_0.2.2.2.2.2.2.2.2.2.2.2.1
theorem dd_L_checked_0 : dk_R cL_checked [(0, .aload_n 2, 1), (1, .aload_n 0, 1), (2, .iload_n 1, 1), (3, .invokevirtual 33, 3), (6, .ifCond .eq 7, 3), (9, .lconst 1, 1), (10, .goto 4, 3), (13, .lconst 0, 1), (14, .putfield 13, 3), (17, .goto 6, 3), (20, .astore_n 3, 1), (21, .iconst 1, 1), (22, .ireturn, 1), (23, .iconst 0, 1), (24, .ireturn, 1)] := dk_use _ _ (by decide +kernel)
def fL_checked (xjg : Int32) (xjs : Int32) (on : Int64) (i1 : Int32) : Option (Int32 × Int32 × Int64) := ((fX6_checked xjg xjs i1).bind fun x_1 => ybr x_1 (fun w_7 => (if w_7 = 2 then some (1, xjs, on) else none)) (fun w_10 => ((((if w_10.1 = 0 then some 0 else some 1) : Option (Int64))).bind fun r_12 => some (0, w_10.2, r_12))))
abbrev hL_checked : Cond := .codeWith yL_checked cL_checked 4 (some .int) [(0, 17, 20, 37)]
theorem mL_checked : yM yL_checked hL_checked 3 := ⟨u_701, u_56, by decide +kernel, by decide +kernel, by decide +kernel⟩
theorem yc_L_checked_2 : yCatch RL [(0, 17, 20, 37)] 3 (yE 2) 20 := ⟨(tableOf [(0, 17, 20, 37)]).take 0, (tableOf [(0, 17, 20, 37)])[0]'(by decide +kernel), (tableOf [(0, 17, 20, 37)]).drop 1, "java/lang/IllegalStateException", by rfl, fun z hz => absurd hz List.not_mem_nil, by decide +kernel, by decide +kernel, u_702, by decide +kernel, by rfl⟩
set_option maxHeartbeats 4000000 in
set_option maxRecDepth 100000 in
theorem kL_checked (l : Launch) (D : va_G) (cy : Nat → ClassId) (hl0 : l.stackTraces = false) (x : Nat) (xj : Nat) (xw : Nat) (xz : Nat) (xo : Nat) (xy : Nat) (xt : Nat) (xja : Nat) (xjb : Nat) (xjr : Int32) (xjk : Int32) (xjc : Int32) (xjg : Int32) (xjs : Int32) (o : Nat) (on : Int64) (os : Value) (i1 : Int32) {res : Int32 × Int32 × Int64} (hR : fL_checked xjg xjs on i1 = some res) : YM l D cy yL_checked hL_checked 7 1 6 [.ref x, .int i1, .ref o] [[(x, .inr (8, [.ref xj, .ref xw, .ref xz, .ref xo, .ref xy, .ref xt]))], [(xj, .inr (3, [.ref xja, .ref xjb, .int xjr, .int xjk, .int xjc, .int xjg, .int xjs]))], [(o, .inr (9, [.long on, os]))]] (fun v u => v = some (.int res.1) ∧ u = [[(x, .inr (8, [.ref xj, .ref xw, .ref xz, .ref xo, .ref xy, .ref xt]))], [(xj, .inr (3, [.ref xja, .ref xjb, .int xjr, .int xjk, .int xjc, .int xjg, .int res.2.1]))], [(o, .inr (9, [.long res.2.2, os]))]]) := by
  unfold fL_checked at hR
  refine YM.ofIW (cc := cL_checked) (maxL := 4) (hh := [(0, 17, 20, 37)]) (by decide +kernel) rfl (Nat.le_of_ble_eq_true rfl) [(0, .ref x), (1, .int i1), (2, .ref o)] rfl  (fun p e s m args below meth c A H0 Q C htab ret => ?_)
  refine xr_aload_n (n := 1) (j := 2) C dd_L_checked_0.1 rfl rfl ?_
  refine xr_aload_n (n := 2) (j := 0) C dd_L_checked_0.2.1 rfl rfl ?_
  refine xr_iload_n (n := 3) (j := 1) C dd_L_checked_0.2.2.1 rfl rfl ?_
  obtain ⟨x_1, hx_1, hR⟩ := yf_b hR
  refine xr_callVX (n := 6) (As := [.int i1]) (rest := [.ref o]) C htab (kX6_checked l D cy hl0 (x := x) (xj := xj) (xw := xw) (xz := xz) (xo := xo) (xy := xy) (xt := xt) (xja := xja) (xjb := xjb) (xjr := xjr) (xjk := xjk) (xjc := xjc) (xjg := xjg) (xjs := xjs) (i1 := i1) hx_1) mX6_checked u_703 u_704 u_705 0 rfl rfl 3 [0, 1] [2] rfl (by decide +kernel) rfl rfl rfl rfl (Nat.le_of_ble_eq_true rfl) (Nat.le_of_ble_eq_true rfl) (Nat.le_of_ble_eq_true rfl) (Nat.le_of_ble_eq_true rfl) (Nat.le_of_ble_eq_true rfl) dd_L_checked_0.2.2.2.1 rfl (fun E_ u_5 hp_6 => ?_) (fun v_2 u_3 hp_4 => ?_)
  · obtain ⟨w_7, ew_7, rfl, rfl⟩ := hp_6
    subst ew_7
    replace hR := ybr_l hR
    by_cases c_8 : w_7 = 2
    · replace hR := yf_t c_8 hR
      refine ⟨20, by rw [c_8]; exact yc_L_checked_2, fun q_9 => ?_⟩
      refine xr_perm C 3 [0, 1, 2] [] [[(x, .inr (8, [.ref xj, .ref xw, .ref xz, .ref xo, .ref xy, .ref xt]))], [(xj, .inr (3, [.ref xja, .ref xjb, .int xjr, .int xjk, .int xjc, .int xjg, .int xjs]))], [(o, .inr (9, [.long on, os]))]] rfl (by decide +kernel) rfl ?_
      refine xr_astore_n (n := 21) C [(3, .ref q_9), (0, .ref x), (1, .int i1), (2, .ref o)] dd_L_checked_0.2.2.2.2.2.2.2.2.2.2.1 (by decide) rfl rfl ?_
      refine xr_iconst (n := 22) (v := 1) C dd_L_checked_0.2.2.2.2.2.2.2.2.2.2.2.1 rfl rfl ?_
      obtain rfl := Option.some.inj hR
      exact ret 1 ⟨rfl, rfl⟩ (Nat.le_of_ble_eq_true rfl) (Nat.le_of_ble_eq_true rfl) dd_L_checked_0.2.2.2.2.2.2.2.2.2.2.2.2.1
    replace hR := yf_f c_8 hR
    cases hR
  · obtain ⟨w_10, ew_10, rfl, rfl⟩ := hp_4
    subst ew_10
    replace hR := ybr_r hR
    refine xr_perm C 3 [0, 1, 2] [] [[(x, .inr (8, [.ref xj, .ref xw, .ref xz, .ref xo, .ref xy, .ref xt]))], [(xj, .inr (3, [.ref xja, .ref xjb, .int xjr, .int xjk, .int xjc, .int xjg, .int w_10.2]))], [(o, .inr (9, [.long on, os]))]] rfl (by decide +kernel) rfl ?_
    refine xr_st (st' := [.int w_10.1, .ref o]) rfl ?_
    obtain ⟨r_12, hE_12, hR⟩ := yf_b hR
    have J_12 : X p l e (yR 7 1 6) s m args below meth c D A H0 4 Q [[(x, .inr (8, [.ref xj, .ref xw, .ref xz, .ref xo, .ref xy, .ref xt]))], [(xj, .inr (3, [.ref xja, .ref xjb, .int xjr, .int xjk, .int xjc, .int xjg, .int w_10.2]))], [(o, .inr (9, [.long on, os]))]] (0 + 1) (0 + 6) [] 14 [.long r_12, .ref o] := by
      refine xr_putN (n := 17) C 2 rfl rfl 0 (by decide) in_X7 tyX7 tyX7_ok nmX7 RL (List.mem_of_getElem? (i := 46) rfl) rfl rfl rfl rfl (Nat.le_of_ble_eq_true rfl) [[(x, .inr (8, [.ref xj, .ref xw, .ref xz, .ref xo, .ref xy, .ref xt]))], [(xj, .inr (3, [.ref xja, .ref xjb, .int xjr, .int xjk, .int xjc, .int xjg, .int w_10.2]))], [(o, .inr (9, [.long r_12, os]))]] rfl rfl dd_L_checked_0.2.2.2.2.2.2.2.2.1 ?_
      refine xr_goto (tgt := 23) C dd_L_checked_0.2.2.2.2.2.2.2.2.2.1 rfl ?_
      refine xr_iconst (n := 24) (v := 0) C dd_L_checked_0.2.2.2.2.2.2.2.2.2.2.2.2.2.1 rfl rfl ?_
      obtain rfl := Option.some.inj hR
      exact ret 0 ⟨rfl, rfl⟩ (Nat.le_of_ble_eq_true rfl) (Nat.le_of_ble_eq_true rfl) dd_L_checked_0.2.2.2.2.2.2.2.2.2.2.2.2.2.2.1
    refine xr_if_eq (tgt := 13) (n := 9) C dd_L_checked_0.2.2.2.2.1 rfl rfl (fun c_13 => ?_) (fun c_13 => ?_)
    · replace hE_12 := yf_t c_13 hE_12
      refine xr_lconst (n := 14) (v := 0) C dd_L_checked_0.2.2.2.2.2.2.2.1 rfl rfl ?_
      refine xr_lv (lv' := []) [] rfl ?_
      have e_14 := Option.some.inj hE_12
      subst e_14
      exact J_12
    · replace hE_12 := yf_f c_13 hE_12
      refine xr_lconst (n := 10) (v := 1) C dd_L_checked_0.2.2.2.2.2.1 rfl rfl ?_
      refine xr_goto (tgt := 14) C dd_L_checked_0.2.2.2.2.2.2.1 rfl ?_
      refine xr_lv (lv' := []) [] rfl ?_
      have e_15 := Option.some.inj hE_12
      subst e_15
      exact J_12
theorem dd_L_broken_0 : dk_R cL_broken [(0, .aload 4, 2), (2, .aload_n 0, 1), (3, .iload_n 1, 1), (4, .iload_n 2, 1), (5, .iload_n 3, 1), (6, .invokevirtual 39, 3), (9, .i2l, 1), (10, .putfield 13, 3), (13, .goto 7, 3), (16, .astore 5, 2), (18, .iconst 1, 1), (19, .ireturn, 1), (20, .iconst 0, 1), (21, .ireturn, 1)] := dk_use _ _ (by decide +kernel)
def fL_broken (xwb : Int32) (xwk : Int32) (on : Int64) (i1 : Int32) (i2 : Int32) (isb : Int32) : Option (Int32 × Int32 × Int32 × Int64) := ((fX6_broken xwb xwk i1 i2 isb).bind fun x_1 => ybr x_1 (fun w_7 => (if w_7 = 1 then some (1, xwb, xwk, on) else none)) (fun w_10 => some (0, w_10.2.1, w_10.2.2, w_10.1.toInt64)))
abbrev hL_broken : Cond := .codeWith yL_broken cL_broken 6 (some .int) [(0, 13, 16, 24)]
theorem mL_broken : yM yL_broken hL_broken 5 := ⟨u_725, u_56, by decide +kernel, by decide +kernel, by decide +kernel⟩
theorem yc_L_broken_1 : yCatch RL [(0, 13, 16, 24)] 6 (yE 1) 16 := ⟨(tableOf [(0, 13, 16, 24)]).take 0, (tableOf [(0, 13, 16, 24)])[0]'(by decide +kernel), (tableOf [(0, 13, 16, 24)]).drop 1, "java/lang/IndexOutOfBoundsException", by rfl, fun z hz => absurd hz List.not_mem_nil, by decide +kernel, by decide +kernel, u_654, by decide +kernel, by rfl⟩
set_option maxHeartbeats 4000000 in
set_option maxRecDepth 100000 in
theorem kL_broken (l : Launch) (D : va_G) (cy : Nat → ClassId) (hl0 : l.stackTraces = false) (x : Nat) (xj : Nat) (xw : Nat) (xz : Nat) (xo : Nat) (xy : Nat) (xt : Nat) (xwu : Nat) (xwm : Nat) (xwb : Int32) (xwk : Int32) (o : Nat) (on : Int64) (os : Value) (i1 : Int32) (i2 : Int32) (isb : Int32) {res : Int32 × Int32 × Int32 × Int64} (hR : fL_broken xwb xwk on i1 i2 isb = some res) : YM l D cy yL_broken hL_broken 7 1 6 [.ref x, .int i1, .int i2, .int isb, .ref o] [[(x, .inr (8, [.ref xj, .ref xw, .ref xz, .ref xo, .ref xy, .ref xt]))], [(xw, .inr (2, [.ref xwu, .ref xwm, .int xwb, .int xwk]))], [(o, .inr (9, [.long on, os]))]] (fun v u => v = some (.int res.1) ∧ u = [[(x, .inr (8, [.ref xj, .ref xw, .ref xz, .ref xo, .ref xy, .ref xt]))], [(xw, .inr (2, [.ref xwu, .ref xwm, .int res.2.1, .int res.2.2.1]))], [(o, .inr (9, [.long res.2.2.2, os]))]]) := by
  unfold fL_broken at hR
  refine YM.ofIW (cc := cL_broken) (maxL := 6) (hh := [(0, 13, 16, 24)]) (by decide +kernel) rfl (Nat.le_of_ble_eq_true rfl) [(0, .ref x), (1, .int i1), (2, .int i2), (3, .int isb), (4, .ref o)] rfl  (fun p e s m args below meth c A H0 Q C htab ret => ?_)
  refine xr_aload (n := 2) (j := 4) C dd_L_broken_0.1 rfl rfl ?_
  refine xr_aload_n (n := 3) (j := 0) C dd_L_broken_0.2.1 rfl rfl ?_
  refine xr_iload_n (n := 4) (j := 1) C dd_L_broken_0.2.2.1 rfl rfl ?_
  refine xr_iload_n (n := 5) (j := 2) C dd_L_broken_0.2.2.2.1 rfl rfl ?_
  refine xr_iload_n (n := 6) (j := 3) C dd_L_broken_0.2.2.2.2.1 rfl rfl ?_
  obtain ⟨x_1, hx_1, hR⟩ := yf_b hR
  refine xr_callVX (n := 9) (As := [.int i1, .int i2, .int isb]) (rest := [.ref o]) C htab (kX6_broken l D cy hl0 (x := x) (xj := xj) (xw := xw) (xz := xz) (xo := xo) (xy := xy) (xt := xt) (xwu := xwu) (xwm := xwm) (xwb := xwb) (xwk := xwk) (i1 := i1) (i2 := i2) (isb := isb) hx_1) mX6_broken u_726 u_727 u_728 0 rfl rfl 3 [0, 1] [2] rfl (by decide +kernel) rfl rfl rfl rfl (Nat.le_of_ble_eq_true rfl) (Nat.le_of_ble_eq_true rfl) (Nat.le_of_ble_eq_true rfl) (Nat.le_of_ble_eq_true rfl) (Nat.le_of_ble_eq_true rfl) dd_L_broken_0.2.2.2.2.2.1 rfl (fun E_ u_5 hp_6 => ?_) (fun v_2 u_3 hp_4 => ?_)
  · obtain ⟨w_7, ew_7, rfl, rfl⟩ := hp_6
    subst ew_7
    replace hR := ybr_l hR
    by_cases c_8 : w_7 = 1
    · replace hR := yf_t c_8 hR
      refine ⟨16, by rw [c_8]; exact yc_L_broken_1, fun q_9 => ?_⟩
      refine xr_perm C 3 [0, 1, 2] [] [[(x, .inr (8, [.ref xj, .ref xw, .ref xz, .ref xo, .ref xy, .ref xt]))], [(xw, .inr (2, [.ref xwu, .ref xwm, .int xwb, .int xwk]))], [(o, .inr (9, [.long on, os]))]] rfl (by decide +kernel) rfl ?_
      refine xr_astore (n := 18) C [(5, .ref q_9), (0, .ref x), (1, .int i1), (2, .int i2), (3, .int isb), (4, .ref o)] dd_L_broken_0.2.2.2.2.2.2.2.2.2.1 (by decide) rfl rfl ?_
      refine xr_iconst (n := 19) (v := 1) C dd_L_broken_0.2.2.2.2.2.2.2.2.2.2.1 rfl rfl ?_
      obtain rfl := Option.some.inj hR
      exact ret 1 ⟨rfl, rfl⟩ (Nat.le_of_ble_eq_true rfl) (Nat.le_of_ble_eq_true rfl) dd_L_broken_0.2.2.2.2.2.2.2.2.2.2.2.1
    replace hR := yf_f c_8 hR
    cases hR
  · obtain ⟨w_10, ew_10, rfl, rfl⟩ := hp_4
    subst ew_10
    replace hR := ybr_r hR
    refine xr_perm C 3 [0, 1, 2] [] [[(x, .inr (8, [.ref xj, .ref xw, .ref xz, .ref xo, .ref xy, .ref xt]))], [(xw, .inr (2, [.ref xwu, .ref xwm, .int w_10.2.1, .int w_10.2.2]))], [(o, .inr (9, [.long on, os]))]] rfl (by decide +kernel) rfl ?_
    refine xr_st (st' := [.int w_10.1, .ref o]) rfl ?_
    refine xr_i2l (n := 10) C dd_L_broken_0.2.2.2.2.2.2.1 rfl ?_
    refine xr_putN (n := 13) C 2 rfl rfl 0 (by decide) in_X7 tyX7 tyX7_ok nmX7 RL (List.mem_of_getElem? (i := 46) rfl) rfl rfl rfl rfl (Nat.le_of_ble_eq_true rfl) [[(x, .inr (8, [.ref xj, .ref xw, .ref xz, .ref xo, .ref xy, .ref xt]))], [(xw, .inr (2, [.ref xwu, .ref xwm, .int w_10.2.1, .int w_10.2.2]))], [(o, .inr (9, [.long w_10.1.toInt64, os]))]] rfl rfl dd_L_broken_0.2.2.2.2.2.2.2.1 ?_
    refine xr_goto (tgt := 20) C dd_L_broken_0.2.2.2.2.2.2.2.2.1 rfl ?_
    refine xr_iconst (n := 21) (v := 0) C dd_L_broken_0.2.2.2.2.2.2.2.2.2.2.2.2.1 rfl rfl ?_
    obtain rfl := Option.some.inj hR
    exact ret 0 ⟨rfl, rfl⟩ (Nat.le_of_ble_eq_true rfl) (Nat.le_of_ble_eq_true rfl) dd_L_broken_0.2.2.2.2.2.2.2.2.2.2.2.2.2.1
