theorem u_907 : Cond.classLink RX6 214 RJ4 ∈ yU := yu_tables_1_4 131 (by decide +kernel) (by decide +kernel)
theorem u_908 : Cond.instantiable RJ4 4 ∈ yU := yu_tables_1_4 132 (by decide +kernel) (by decide +kernel)
theorem u_909 : Cond.methodLink RX6 216 yJ4_init_da8c8 ∈ yU := yu_tables_1_4 133 (by decide +kernel) (by decide +kernel)
theorem u_910 : Cond.instanceMethod yJ4_init_da8c8 ∈ yU := yu_tables_1_4 134 (by decide +kernel) (by decide +kernel)
theorem u_938 : Cond.methodLink RX6 217 yX6_signOf ∈ yU := yu_tables_1_4 162 (by decide +kernel) (by decide +kernel)
theorem u_940 : Cond.instanceMethod yX6_signOf ∈ yU := yu_tables_1_4 164 (by decide +kernel) (by decide +kernel)
theorem u_27 : Cond.selects RX6 yX6_signOf yX6_signOf ∈ yU := yu 27 (by decide +kernel) (by decide +kernel)
theorem u_943 : Cond.methodLink RX6 221 yJ4_append_cf468 ∈ yU := yu_tables_1_4 167 (by decide +kernel) (by decide +kernel)
theorem u_944 : Cond.instanceMethod yJ4_append_cf468 ∈ yU := yu_tables_1_4 168 (by decide +kernel) (by decide +kernel)
theorem u_945 : Cond.selects RJ4 yJ4_append_cf468 yJ4_append_cf468 ∈ yU := yu_tables_1_4 169 (by decide +kernel) (by decide +kernel)
theorem u_1034 : Cond.methodLink RX6 225 yJ4_toString_0e30d ∈ yU := yu_tables_1_5 18 (by decide +kernel) (by decide +kernel)
theorem u_1035 : Cond.instanceMethod yJ4_toString_0e30d ∈ yU := yu_tables_1_5 19 (by decide +kernel) (by decide +kernel)
theorem u_1036 : Cond.selects RJ4 yJ4_toString_0e30d yJ4_toString_0e30d ∈ yU := yu_tables_1_5 20 (by decide +kernel) (by decide +kernel)
theorem u_905 : Cond.code yX6_row cX6_row 4 (some (.object "java/lang/String")) ∈ yU := yu_tables_1_4 129 (by decide +kernel) (by decide +kernel)
theorem yt_X6_212 : yT RX6 "java/lang/IndexOutOfBoundsException" "the mesh has no such row" 69 212 73 := ⟨by decide +kernel, u_659, u_71, by decide +kernel, ytb_1⟩
theorem dd_X6_row_0 : dk_R cX6_row [(0, .iload_n 1, 1), (1, .ifCond .lt 8, 3), (4, .iload_n 1, 1), (5, .iconst 5, 1), (6, .if_icmp .lt 13, 3), (9, .new 69, 3), (12, .dup, 1), (13, .ldc 212, 2), (15, .invokespecial 73, 3), (18, .athrow, 1), (19, .new 214, 3), (22, .dup, 1), (23, .invokespecial 216, 3), (26, .astore_n 2, 1), (27, .iconst 0, 1), (28, .istore_n 3, 1)] := dk_use _ _ (by decide +kernel)
theorem dd_X6_row_1 : dk_R cX6_row [(29, .iload_n 3, 1), (30, .iconst 5, 1), (31, .if_icmp .ge 20, 3), (34, .aload_n 2, 1), (35, .aload_n 0, 1), (36, .iload_n 1, 1), (37, .iload_n 3, 1), (38, .invokevirtual 217, 3), (41, .invokevirtual 221, 3), (44, .pop, 1), (45, .iinc 3 1, 3), (48, .goto (-19), 3), (51, .aload_n 2, 1), (52, .invokevirtual 225, 3), (55, .areturn, 1)] := dk_use _ _ (by decide +kernel)
def fX6_row (xwb : Int32) (xwk : Int32) (xobl : Int32) (xoy3 : Int32) (xoy4 : Int32) (i1 : Int32) : Option (Nat ⊕ ((Nat → Int32) × Nat)) := (if i1 < 0 then some (.inl 1) else (if i1 < 5 then ((fJ4_init_da8c8).bind fun x_4 => ((wl (S := Int32 × Int32 × (Nat → Int32)) (B := Int32 × Int32 × (Nat → Int32)) (fun s_9 => (if 5 ≤ s_9.1 then some (.inr (s_9.1, s_9.2.1, s_9.2.2)) else ((fX6_signOf xwb xwk xobl xoy3 xoy4 i1 s_9.1).bind fun x_18 => ((fJ4_append_cf468 s_9.2.1 s_9.2.2 16 x_18).bind fun x_22 => some (.inl (s_9.1 + 1, x_22.1, x_22.2)))))) yFuel (0, 0, fun _ => 0)).bind fun b_9 => ((fJ4_toString_0e30d b_9.2.1 b_9.2.2 16).bind fun x_10 => some (.inr (x_10.1, x_10.2))))) else some (.inl 1)))
abbrev hX6_row : Cond := .code yX6_row cX6_row 4 (some (.object "java/lang/String"))
theorem mX6_row : yM yX6_row hX6_row 1 := ⟨u_905, u_57, by decide +kernel, by decide +kernel, by decide +kernel⟩
set_option maxHeartbeats 4000000 in
set_option maxRecDepth 100000 in
theorem kX6_row (l : Launch) (D : va_G) (cy : Nat → ClassId) (hl0 : l.stackTraces = false) (x : Nat) (xj : Nat) (xw : Nat) (xz : Nat) (xo : Nat) (xy : Nat) (xt : Nat) (xwu : Nat) (xwm : Nat) (xwb : Int32) (xwk : Int32) (xoj : Nat) (xoy : Nat) (xosk : Int32) (xoti : Int32) (xofr : Int32) (xofc : Int32) (xobt : Int32) (xobl : Int32) (xobe : Int32) (xose : Int32) (xotk : Int32) (xoy0 : Int32) (xoy1 : Int32) (xoy2 : Int32) (xoy3 : Int32) (xoy4 : Int32) (xoy5 : Int32) (xoy6 : Int32) (xoy7 : Int32) (xoy8 : Int32) (xoy9 : Int32) (i1 : Int32) {res : Nat ⊕ ((Nat → Int32) × Nat)} (hR : fX6_row xwb xwk xobl xoy3 xoy4 i1 = some res) : YX l D cy yX6_row hX6_row 7 4 40 [.ref x, .int i1] [[(x, .inr (8, [.ref xj, .ref xw, .ref xz, .ref xo, .ref xy, .ref xt]))], [(xw, .inr (2, [.ref xwu, .ref xwm, .int xwb, .int xwk]))], [(xo, .inr (7, [.ref xoj, .ref xoy, .int xosk, .int xoti, .int xofr, .int xofc, .int xobt, .int xobl, .int xobe, .int xose, .int xotk]))], [(xoy, .inr (4, [.int xoy0, .int xoy1, .int xoy2, .int xoy3, .int xoy4, .int xoy5, .int xoy6, .int xoy7, .int xoy8, .int xoy9]))]] (fun v u => ∃ r, res = .inr r ∧ ∃ rs : Nat, ∃ rsv : Nat, v = some (.ref rs) ∧ u = [[(x, .inr (8, [.ref xj, .ref xw, .ref xz, .ref xo, .ref xy, .ref xt]))], [(xw, .inr (2, [.ref xwu, .ref xwm, .int xwb, .int xwk]))], [(xo, .inr (7, [.ref xoj, .ref xoy, .int xosk, .int xoti, .int xofr, .int xofc, .int xobt, .int xobl, .int xobe, .int xose, .int xotk]))], [(xoy, .inr (4, [.int xoy0, .int xoy1, .int xoy2, .int xoy3, .int xoy4, .int xoy5, .int xoy6, .int xoy7, .int xoy8, .int xoy9]))], [(rs, .inr (0, [.ref rsv, .int 0, .int 0, .int 0]))], [(rsv, .inl (cy 0, r.2, .inl r.1))]]) (fun E u => ∃ r, res = .inl r ∧ E = yE r ∧ u = [[(x, .inr (8, [.ref xj, .ref xw, .ref xz, .ref xo, .ref xy, .ref xt]))], [(xw, .inr (2, [.ref xwu, .ref xwm, .int xwb, .int xwk]))], [(xo, .inr (7, [.ref xoj, .ref xoy, .int xosk, .int xoti, .int xofr, .int xofc, .int xobt, .int xobl, .int xobe, .int xose, .int xotk]))], [(xoy, .inr (4, [.int xoy0, .int xoy1, .int xoy2, .int xoy3, .int xoy4, .int xoy5, .int xoy6, .int xoy7, .int xoy8, .int xoy9]))]]) := by
  unfold fX6_row at hR
  refine YX.ofA (cc := cX6_row) (maxL := 4) (ret := (some (.object "java/lang/String"))) hl0 (by decide +kernel) rfl (Nat.le_of_ble_eq_true rfl) [(0, .ref x), (1, .int i1)] rfl (.object "java/lang/String") rfl (Or.inl ⟨_, rfl⟩) (fun p e s m args below meth c A H0 Q C ret thr => ?_)
  refine xr_iload_n (n := 1) (j := 1) C dd_X6_row_0.1 rfl rfl ?_
  refine xr_if_lt (tgt := 9) (n := 4) C dd_X6_row_0.2.1 rfl rfl (fun c_1 => ?_) (fun c_1 => ?_)
  · replace hR := yf_t c_1 hR
    obtain rfl := Option.some.inj hR
    exact thr "java/lang/IndexOutOfBoundsException" "the mesh has no such row" 69 212 73 yt_X6_212 ⟨_, rfl, rfl, rfl⟩ (Nat.le_of_ble_eq_true rfl) (Nat.le_of_ble_eq_true rfl) (Nat.le_of_ble_eq_true rfl) (Nat.le_of_ble_eq_true rfl) dd_X6_row_0.2.2.2.2.2.1 dd_X6_row_0.2.2.2.2.2.2.1 dd_X6_row_0.2.2.2.2.2.2.2.1 dd_X6_row_0.2.2.2.2.2.2.2.2.1 dd_X6_row_0.2.2.2.2.2.2.2.2.2.1
  · replace hR := yf_f c_1 hR
    refine xr_iload_n (n := 5) (j := 1) C dd_X6_row_0.2.2.1 rfl rfl ?_
    refine xr_iconst (n := 6) (v := 5) C dd_X6_row_0.2.2.2.1 rfl rfl ?_
    refine xr_icmp_lt (tgt := 19) (n := 9) C dd_X6_row_0.2.2.2.2.1 rfl rfl (fun c_2 => ?_) (fun c_2 => ?_)
    · replace hR := yf_t c_2 hR
      refine xr_new (n := 22) (ci := 1) C tyJ4 tyJ4_ok in_J4 u_907 u_908 u_76 rfl [.null, .int 0, .int 0, .int 0] (by decide) (Nat.le_of_ble_eq_true rfl) (Nat.le_of_ble_eq_true rfl) dd_X6_row_0.2.2.2.2.2.2.2.2.2.2.1 rfl (fun q_3 => ?_)
      refine xr_eq (bs' := [[(x, .inr (8, [.ref xj, .ref xw, .ref xz, .ref xo, .ref xy, .ref xt]))], [(xw, .inr (2, [.ref xwu, .ref xwm, .int xwb, .int xwk]))], [(xo, .inr (7, [.ref xoj, .ref xoy, .int xosk, .int xoti, .int xofr, .int xofc, .int xobt, .int xobl, .int xobe, .int xose, .int xotk]))], [(xoy, .inr (4, [.int xoy0, .int xoy1, .int xoy2, .int xoy3, .int xoy4, .int xoy5, .int xoy6, .int xoy7, .int xoy8, .int xoy9]))], [(q_3, .inr (1, [.null, .int 0, .int 0, .int 0]))]]) rfl ?_
      refine xr_dup (n := 23) C dd_X6_row_0.2.2.2.2.2.2.2.2.2.2.2.1 rfl rfl ?_
      obtain ⟨x_4, hx_4, hR⟩ := yf_b hR
      refine xr_callI (n := 26) (As := []) (rest := [.ref q_3]) C (kJ4_init_da8c8 l D cy (h := q_3) hx_4) mJ4_init_da8c8 u_909 u_910 rfl 5 [4] [0, 1, 2, 3] rfl (by decide +kernel) rfl rfl rfl rfl (Nat.le_of_ble_eq_true rfl) (Nat.le_of_ble_eq_true rfl) (Nat.le_of_ble_eq_true rfl) (Nat.le_of_ble_eq_true rfl) (Nat.le_of_ble_eq_true rfl) dd_X6_row_0.2.2.2.2.2.2.2.2.2.2.2.2.1 rfl (fun v_5 u_6 hp_7 => ?_)
      obtain ⟨q_8, rfl, rfl⟩ := hp_7
      refine xr_perm C 6 [2, 3, 4, 5, 0, 1] [] [[(x, .inr (8, [.ref xj, .ref xw, .ref xz, .ref xo, .ref xy, .ref xt]))], [(xw, .inr (2, [.ref xwu, .ref xwm, .int xwb, .int xwk]))], [(xo, .inr (7, [.ref xoj, .ref xoy, .int xosk, .int xoti, .int xofr, .int xofc, .int xobt, .int xobl, .int xobe, .int xose, .int xotk]))], [(xoy, .inr (4, [.int xoy0, .int xoy1, .int xoy2, .int xoy3, .int xoy4, .int xoy5, .int xoy6, .int xoy7, .int xoy8, .int xoy9]))], [(q_3, .inr (1, [.ref q_8, .int 0, .int 0, .int 0]))], [(q_8, .inl (cy 0, 16, .inl (fun _ => 0)))]] rfl (by decide +kernel) rfl ?_
      refine xr_astore_n (n := 27) C [(2, .ref q_3), (0, .ref x), (1, .int i1)] dd_X6_row_0.2.2.2.2.2.2.2.2.2.2.2.2.2.1 (by decide) rfl rfl ?_
      refine xr_iconst (n := 28) (v := 0) C dd_X6_row_0.2.2.2.2.2.2.2.2.2.2.2.2.2.2.1 rfl rfl ?_
      refine xr_istore_n (n := 29) C [(3, .int 0), (2, .ref q_3), (0, .ref x), (1, .int i1)] dd_X6_row_0.2.2.2.2.2.2.2.2.2.2.2.2.2.2.2.1 (by decide) rfl rfl ?_
      refine xr_lv (lv' := [(0, .ref x), (1, .int i1), (2, .ref q_3), (3, .int 0)]) [2, 3, 1, 0] rfl ?_
      obtain ⟨b_9, hb_9, hR⟩ := yf_b hR
      have K_9 : X p l e (yR 7 4 40) s m args below meth c D A H0 4 Q [[(x, .inr (8, [.ref xj, .ref xw, .ref xz, .ref xo, .ref xy, .ref xt]))], [(xw, .inr (2, [.ref xwu, .ref xwm, .int xwb, .int xwk]))], [(xo, .inr (7, [.ref xoj, .ref xoy, .int xosk, .int xoti, .int xofr, .int xofc, .int xobt, .int xobl, .int xobe, .int xose, .int xotk]))], [(xoy, .inr (4, [.int xoy0, .int xoy1, .int xoy2, .int xoy3, .int xoy4, .int xoy5, .int xoy6, .int xoy7, .int xoy8, .int xoy9]))], [(q_3, .inr (1, [.ref q_8, .int 0, .int 0, .int b_9.2.1]))], [(q_8, .inl (cy 0, 16, .inl b_9.2.2))]] (0 + 1 + 1) (0 + 4 + 16) [(2, .ref q_3)] 51 [] := by
        refine xr_aload_n (n := 52) (j := 0) C dd_X6_row_1.2.2.2.2.2.2.2.2.2.2.2.2.1 rfl rfl ?_
        obtain ⟨x_10, hx_10, hR⟩ := yf_b hR
        refine xr_callV (n := 55) (As := []) (rest := []) C (kJ4_toString_0e30d l D cy (h := q_3) (hv := q_8) (hc := b_9.2.1) (hf := b_9.2.2) (hn := 16) hx_10) mJ4_toString_0e30d u_1034 u_1035 u_1036 4 rfl rfl 6 [4, 5] [0, 1, 2, 3] rfl (by decide +kernel) rfl rfl rfl rfl (Nat.le_of_ble_eq_true rfl) (Nat.le_of_ble_eq_true rfl) (Nat.le_of_ble_eq_true rfl) (Nat.le_of_ble_eq_true rfl) (Nat.le_of_ble_eq_true rfl) dd_X6_row_1.2.2.2.2.2.2.2.2.2.2.2.2.2.1 rfl (fun v_11 u_12 hp_13 => ?_)
        obtain ⟨q_14, q_15, rfl, rfl⟩ := hp_13
        refine xr_perm C 8 [4, 5, 6, 7, 0, 1, 2, 3] [] [[(x, .inr (8, [.ref xj, .ref xw, .ref xz, .ref xo, .ref xy, .ref xt]))], [(xw, .inr (2, [.ref xwu, .ref xwm, .int xwb, .int xwk]))], [(xo, .inr (7, [.ref xoj, .ref xoy, .int xosk, .int xoti, .int xofr, .int xofc, .int xobt, .int xobl, .int xobe, .int xose, .int xotk]))], [(xoy, .inr (4, [.int xoy0, .int xoy1, .int xoy2, .int xoy3, .int xoy4, .int xoy5, .int xoy6, .int xoy7, .int xoy8, .int xoy9]))], [(q_3, .inr (1, [.ref q_8, .int 0, .int 0, .int b_9.2.1]))], [(q_8, .inl (cy 0, 16, .inl b_9.2.2))], [(q_14, .inr (0, [.ref q_15, .int 0, .int 0, .int 0]))], [(q_15, .inl (cy 0, x_10.2, .inl x_10.1))]] rfl (by decide +kernel) rfl ?_
        refine xr_st (st' := [.ref q_14]) rfl ?_
        obtain rfl := Option.some.inj hR
        refine xr_perm C 8 [0, 1, 2, 3, 6, 7] [4, 5] [[(x, .inr (8, [.ref xj, .ref xw, .ref xz, .ref xo, .ref xy, .ref xt]))], [(xw, .inr (2, [.ref xwu, .ref xwm, .int xwb, .int xwk]))], [(xo, .inr (7, [.ref xoj, .ref xoy, .int xosk, .int xoti, .int xofr, .int xofc, .int xobt, .int xobl, .int xobe, .int xose, .int xotk]))], [(xoy, .inr (4, [.int xoy0, .int xoy1, .int xoy2, .int xoy3, .int xoy4, .int xoy5, .int xoy6, .int xoy7, .int xoy8, .int xoy9]))], [(q_14, .inr (0, [.ref q_15, .int 0, .int 0, .int 0]))], [(q_15, .inl (cy 0, x_10.2, .inl x_10.1))]] rfl (by decide +kernel) rfl ?_
        exact ret q_14 ⟨_, rfl, q_14, q_15, rfl, rfl⟩ (Nat.le_of_ble_eq_true rfl) (Nat.le_of_ble_eq_true rfl) dd_X6_row_1.2.2.2.2.2.2.2.2.2.2.2.2.2.2.1
      refine y_loop (P := fun (s_9 : Int32 × Int32 × (Nat → Int32)) => X p l e (yR 7 4 40) s m args below meth c D A H0 4 Q [[(x, .inr (8, [.ref xj, .ref xw, .ref xz, .ref xo, .ref xy, .ref xt]))], [(xw, .inr (2, [.ref xwu, .ref xwm, .int xwb, .int xwk]))], [(xo, .inr (7, [.ref xoj, .ref xoy, .int xosk, .int xoti, .int xofr, .int xofc, .int xobt, .int xobl, .int xobe, .int xose, .int xotk]))], [(xoy, .inr (4, [.int xoy0, .int xoy1, .int xoy2, .int xoy3, .int xoy4, .int xoy5, .int xoy6, .int xoy7, .int xoy8, .int xoy9]))], [(q_3, .inr (1, [.ref q_8, .int 0, .int 0, .int s_9.2.1]))], [(q_8, .inl (cy 0, 16, .inl s_9.2.2))]] (0 + 1 + 1) (0 + 4 + 16) [(0, .ref x), (1, .int i1), (2, .ref q_3), (3, .int s_9.1)] 29 []) ?_ _ (0, 0, fun _ => 0) hb_9
      intro s_9 o_9 ho_9 hk_9 hx_9
      refine xr_iload_n (n := 30) (j := 3) C dd_X6_row_1.1 rfl rfl ?_
      refine xr_iconst (n := 31) (v := 5) C dd_X6_row_1.2.1 rfl rfl ?_
      refine xr_icmp_ge (tgt := 51) (n := 34) C dd_X6_row_1.2.2.1 rfl rfl (fun c_16 => ?_) (fun c_16 => ?_)
      · replace ho_9 := yf_t c_16 ho_9
        refine xr_lv (lv' := [(2, .ref q_3)]) [2] rfl ?_
        have e_17 := hx_9 _ (Option.some.inj ho_9).symm
        subst e_17
        exact K_9
      · replace ho_9 := yf_f c_16 ho_9
        refine xr_aload_n (n := 35) (j := 2) C dd_X6_row_1.2.2.2.1 rfl rfl ?_
        refine xr_aload_n (n := 36) (j := 0) C dd_X6_row_1.2.2.2.2.1 rfl rfl ?_
        refine xr_iload_n (n := 37) (j := 1) C dd_X6_row_1.2.2.2.2.2.1 rfl rfl ?_
        refine xr_iload_n (n := 38) (j := 3) C dd_X6_row_1.2.2.2.2.2.2.1 rfl rfl ?_
        obtain ⟨x_18, hx_18, ho_9⟩ := yf_b ho_9
        refine xr_callVp (n := 41) (As := [.int i1, .int s_9.1]) (rest := [.ref q_3]) C (kX6_signOf l D cy (x := x) (xj := xj) (xw := xw) (xz := xz) (xo := xo) (xy := xy) (xt := xt) (xwu := xwu) (xwm := xwm) (xwb := xwb) (xwk := xwk) (xoj := xoj) (xoy := xoy) (xosk := xosk) (xoti := xoti) (xofr := xofr) (xofc := xofc) (xobt := xobt) (xobl := xobl) (xobe := xobe) (xose := xose) (xotk := xotk) (xoy0 := xoy0) (xoy1 := xoy1) (xoy2 := xoy2) (xoy3 := xoy3) (xoy4 := xoy4) (xoy5 := xoy5) (xoy6 := xoy6) (xoy7 := xoy7) (xoy8 := xoy8) (xoy9 := xoy9) (i1 := i1) (i2 := s_9.1) hx_18) mX6_signOf u_938 u_940 u_27 0 rfl rfl 6 [0, 1, 2, 3] [4, 5] rfl (by decide +kernel) rfl rfl rfl rfl (Nat.le_of_ble_eq_true rfl) (Nat.le_of_ble_eq_true rfl) (Nat.le_of_ble_eq_true rfl) (Nat.le_of_ble_eq_true rfl) (Nat.le_of_ble_eq_true rfl) dd_X6_row_1.2.2.2.2.2.2.2.1 rfl (fun _ _ hp => hp.2) (fun v_19 hp_21 => ?_)
        obtain ⟨rfl, -⟩ := hp_21
        refine xr_st (st' := [.int x_18, .ref q_3]) rfl ?_
        obtain ⟨x_22, hx_22, ho_9⟩ := yf_b ho_9
        refine xr_callV (n := 44) (As := [.int x_18]) (rest := []) C (kJ4_append_cf468 l D cy (h := q_3) (hv := q_8) (hc := s_9.2.1) (hf := s_9.2.2) (hn := 16) (i1 := x_18) hx_22) mJ4_append_cf468 u_943 u_944 u_945 4 rfl rfl 6 [4, 5] [0, 1, 2, 3] rfl (by decide +kernel) rfl rfl rfl rfl (Nat.le_of_ble_eq_true rfl) (Nat.le_of_ble_eq_true rfl) (Nat.le_of_ble_eq_true rfl) (Nat.le_of_ble_eq_true rfl) (Nat.le_of_ble_eq_true rfl) dd_X6_row_1.2.2.2.2.2.2.2.2.1 rfl (fun v_23 u_24 hp_25 => ?_)
        obtain ⟨rfl, rfl⟩ := hp_25
        refine xr_perm C 6 [2, 3, 4, 5, 0, 1] [] [[(x, .inr (8, [.ref xj, .ref xw, .ref xz, .ref xo, .ref xy, .ref xt]))], [(xw, .inr (2, [.ref xwu, .ref xwm, .int xwb, .int xwk]))], [(xo, .inr (7, [.ref xoj, .ref xoy, .int xosk, .int xoti, .int xofr, .int xofc, .int xobt, .int xobl, .int xobe, .int xose, .int xotk]))], [(xoy, .inr (4, [.int xoy0, .int xoy1, .int xoy2, .int xoy3, .int xoy4, .int xoy5, .int xoy6, .int xoy7, .int xoy8, .int xoy9]))], [(q_3, .inr (1, [.ref q_8, .int 0, .int 0, .int x_22.1]))], [(q_8, .inl (cy 0, 16, .inl x_22.2))]] rfl (by decide +kernel) rfl ?_
        refine xr_st (st' := [.ref q_3]) rfl ?_
        refine xr_pop (n := 45) C dd_X6_row_1.2.2.2.2.2.2.2.2.2.1 rfl rfl ?_
        refine xr_iinc (j := 3) (v := s_9.1 + 1) (n := 48) C [(3, .int (s_9.1 + 1)), (0, .ref x), (1, .int i1), (2, .ref q_3)] dd_X6_row_1.2.2.2.2.2.2.2.2.2.2.1 rfl rfl (by decide) rfl rfl ?_
        refine xr_goto (tgt := 29) C dd_X6_row_1.2.2.2.2.2.2.2.2.2.2.2.1 rfl ?_
        refine xr_lv (lv' := [(0, .ref x), (1, .int i1), (2, .ref q_3), (3, .int (s_9.1 + 1))]) [1, 2, 3, 0] rfl ?_
        exact hk_9 (s_9.1 + 1, x_22.1, x_22.2) (Option.some.inj ho_9).symm
    · replace hR := yf_f c_2 hR
      obtain rfl := Option.some.inj hR
      exact thr "java/lang/IndexOutOfBoundsException" "the mesh has no such row" 69 212 73 yt_X6_212 ⟨_, rfl, rfl, rfl⟩ (Nat.le_of_ble_eq_true rfl) (Nat.le_of_ble_eq_true rfl) (Nat.le_of_ble_eq_true rfl) (Nat.le_of_ble_eq_true rfl) dd_X6_row_0.2.2.2.2.2.1 dd_X6_row_0.2.2.2.2.2.2.1 dd_X6_row_0.2.2.2.2.2.2.2.1 dd_X6_row_0.2.2.2.2.2.2.2.2.1 dd_X6_row_0.2.2.2.2.2.2.2.2.2.1
