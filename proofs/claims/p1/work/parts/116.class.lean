theorem u_513 : Cond.code yX6_mixResults cX6_mixResults 7 (some .long) ∈ yU := yu_tables_1_2 217 (by decide +kernel) (by decide +kernel)
theorem u_517 : Cond.code yX6_mixPlain cX6_mixPlain 7 (some .long) ∈ yU := yu_tables_1_2 221 (by decide +kernel) (by decide +kernel)
theorem u_460 : Cond.constantLong RX6 249 (5659) ∈ yU := yu_tables_1_2 164 (by decide +kernel) (by decide +kernel)
theorem u_473 : Cond.methodLink RX6 255 yX6_mixCells ∈ yU := yu_tables_1_2 177 (by decide +kernel) (by decide +kernel)
theorem u_475 : Cond.instanceMethod yX6_mixCells ∈ yU := yu_tables_1_2 179 (by decide +kernel) (by decide +kernel)
theorem u_14 : Cond.selects RX6 yX6_mixCells yX6_mixCells ∈ yU := yu 14 (by decide +kernel) (by decide +kernel)
theorem u_510 : Cond.methodLink RX6 259 yX6_mixResults ∈ yU := yu_tables_1_2 214 (by decide +kernel) (by decide +kernel)
theorem u_512 : Cond.instanceMethod yX6_mixResults ∈ yU := yu_tables_1_2 216 (by decide +kernel) (by decide +kernel)
theorem u_16 : Cond.selects RX6 yX6_mixResults yX6_mixResults ∈ yU := yu 16 (by decide +kernel) (by decide +kernel)
theorem u_514 : Cond.methodLink RX6 262 yX6_mixPlain ∈ yU := yu_tables_1_2 218 (by decide +kernel) (by decide +kernel)
theorem u_516 : Cond.instanceMethod yX6_mixPlain ∈ yU := yu_tables_1_2 220 (by decide +kernel) (by decide +kernel)
theorem u_17 : Cond.selects RX6 yX6_mixPlain yX6_mixPlain ∈ yU := yu 17 (by decide +kernel) (by decide +kernel)
theorem u_459 : Cond.code yX6_digest cX6_digest 4 (some .long) ∈ yU := yu_tables_1_2 163 (by decide +kernel) (by decide +kernel)
theorem u_103 : Cond.methodLink RX4 1 objectInit ∈ yU := yu_tables_1_1 47 (by decide +kernel) (by decide +kernel)
theorem u_90 : Cond.instanceMethod objectInit ∈ yU := yu_tables_1_1 34 (by decide +kernel) (by decide +kernel)
theorem u_91 : Cond.code objectInit ⟨#[0xb1]⟩ 1 none ∈ yU := yu_tables_1_1 35 (by decide +kernel) (by decide +kernel)
theorem u_108 : Cond.arrayClass .int ∈ yU := yu_tables_1_1 52 (by decide +kernel) (by decide +kernel)
theorem u_102 : Cond.code yX4_init cX4_init 1 none ∈ yU := yu_tables_1_1 46 (by decide +kernel) (by decide +kernel)
theorem u_97 : Cond.methodLink RX1 3 objectInit ∈ yU := yu_tables_1_1 41 (by decide +kernel) (by decide +kernel)
theorem u_98 : Cond.classLink RX1 9 RX4 ∈ yU := yu_tables_1_1 42 (by decide +kernel) (by decide +kernel)
theorem u_99 : Cond.instantiable RX4 1 ∈ yU := yu_tables_1_1 43 (by decide +kernel) (by decide +kernel)
theorem u_101 : Cond.instanceMethod yX4_init ∈ yU := yu_tables_1_1 45 (by decide +kernel) (by decide +kernel)
theorem u_96 : Cond.code yX1_init cX1_init 1 none ∈ yU := yu_tables_1_1 40 (by decide +kernel) (by decide +kernel)
theorem u_144 : Cond.methodLink RX0 3 objectInit ∈ yU := yu_tables_1_1 88 (by decide +kernel) (by decide +kernel)
theorem u_145 : Cond.classLink RX0 9 RX4 ∈ yU := yu_tables_1_1 89 (by decide +kernel) (by decide +kernel)
theorem u_143 : Cond.code yX0_init cX0_init 1 none ∈ yU := yu_tables_1_1 87 (by decide +kernel) (by decide +kernel)
theorem dd_X6_mixResults_0 : dk_R cX6_mixResults [(0, .lload_n 1, 1), (1, .lstore_n 3, 1), (2, .iconst 0, 1), (3, .istore 5, 2), (5, .iload 5, 2), (7, .aload_n 0, 1), (8, .getfield 26, 3), (11, .getfield 179, 3), (14, .if_icmp .ge 49, 3), (17, .iconst 0, 1), (18, .istore 6, 2), (20, .iload 6, 2), (22, .aload_n 0, 1), (23, .getfield 26, 3), (26, .getfield 283, 3), (29, .if_icmp .ge 28, 3)] := dk_use _ _ (by decide +kernel)
theorem dd_X6_mixResults_1 : dk_R cX6_mixResults [(32, .lload_n 3, 1), (33, .aload_n 0, 1), (34, .getfield 26, 3), (37, .getfield 176, 3), (40, .iload 5, 2), (42, .iload 6, 2), (44, .invokevirtual 84, 3), (47, .invokestatic 251, 3), (50, .lstore_n 3, 1), (51, .iinc 6 1, 3), (54, .goto (-34), 3), (57, .iinc 5 1, 3), (60, .goto (-55), 3), (63, .lload_n 3, 1), (64, .lreturn, 1)] := dk_use _ _ (by decide +kernel)
def fX6_mixResults (xzr : Int32) (xzc : Int32) (xzvf : Nat → Int32) (i1 : Int64) : Option (Int64) := ((wl (S := Int64 × Int32) (B := Int64 × Int32) (fun s_1 => (if xzr ≤ s_1.2 then some (.inr (s_1.1, s_1.2)) else ((wl (S := Int64 × Int32) (B := Int64 × Int32) (fun s_4 => (if xzc ≤ s_4.2 then some (.inr (s_4.1, s_4.2)) else ((fX4_get xzvf s_1.2 s_4.2).bind fun x_7 => ((fX6_mix s_4.1 x_7).bind fun x_11 => some (.inl (x_11, s_4.2 + 1)))))) yFuel (s_1.1, 0)).bind fun b_4 => some (.inl (b_4.1, s_1.2 + 1))))) yFuel (i1, 0)).bind fun b_1 => some b_1.1)
abbrev hX6_mixResults : Cond := .code yX6_mixResults cX6_mixResults 7 (some .long)
theorem mX6_mixResults : yM yX6_mixResults hX6_mixResults 1 := ⟨u_513, u_57, by decide +kernel, by decide +kernel, by decide +kernel⟩
set_option maxHeartbeats 4000000 in
set_option maxRecDepth 100000 in
theorem kX6_mixResults (l : Launch) (D : va_G) (cy : Nat → ClassId) (x : Nat) (xj : Nat) (xw : Nat) (xz : Nat) (xo : Nat) (xy : Nat) (xt : Nat) (xzv : Nat) (xzr : Int32) (xzc : Int32) (xzs : Int32) (xzvn : Nat) (xzvf : Nat → Int32) (i1 : Int64) {res : Int64} (hR : fX6_mixResults xzr xzc xzvf i1 = some res) : YM l D cy yX6_mixResults hX6_mixResults 2 0 0 [.ref x, .long i1] [[(x, .inr (8, [.ref xj, .ref xw, .ref xz, .ref xo, .ref xy, .ref xt]))], [(xz, .inr (5, [.ref xzv, .int xzr, .int xzc, .int xzs]))], [(xzv, .inr (6, [.ref xzvn]))], [(xzvn, .inl (cy 1, 81, .inl xzvf))]] (fun v u => v = some (.long res) ∧ u = [[(x, .inr (8, [.ref xj, .ref xw, .ref xz, .ref xo, .ref xy, .ref xt]))], [(xz, .inr (5, [.ref xzv, .int xzr, .int xzc, .int xzs]))], [(xzv, .inr (6, [.ref xzvn]))], [(xzvn, .inl (cy 1, 81, .inl xzvf))]]) := by
  unfold fX6_mixResults at hR
  refine YM.ofL (cc := cX6_mixResults) (maxL := 7) (ret := (some .long)) (by decide +kernel) rfl (Nat.le_of_ble_eq_true rfl) [(0, .ref x), (1, .long i1)] rfl rfl (fun p e s m args below meth c A H0 Q C hnm ret => ?_)
  refine xr_lload_n (n := 1) (j := 1) C dd_X6_mixResults_0.1 rfl rfl ?_
  refine xr_lstore_n (n := 2) C [(3, .long i1), (0, .ref x), (1, .long i1)] dd_X6_mixResults_0.2.1 (by decide) rfl rfl ?_
  refine xr_iconst (n := 3) (v := 0) C dd_X6_mixResults_0.2.2.1 rfl rfl ?_
  refine xr_istore (n := 5) C [(5, .int 0), (3, .long i1), (0, .ref x), (1, .long i1)] dd_X6_mixResults_0.2.2.2.1 (by decide) rfl rfl ?_
  refine xr_lv (lv' := [(0, .ref x), (3, .long i1), (5, .int 0)]) [2, 1, 0] rfl ?_
  obtain ⟨b_1, hb_1, hR⟩ := yf_b hR
  have K_1 : X p l e (yR 2 0 0) s m args below meth c D A H0 7 Q [[(x, .inr (8, [.ref xj, .ref xw, .ref xz, .ref xo, .ref xy, .ref xt]))], [(xz, .inr (5, [.ref xzv, .int xzr, .int xzc, .int xzs]))], [(xzv, .inr (6, [.ref xzvn]))], [(xzvn, .inl (cy 1, 81, .inl xzvf))]] 0 0 [(3, .long b_1.1)] 63 [] := by
    refine xr_lload_n (n := 64) (j := 0) C dd_X6_mixResults_1.2.2.2.2.2.2.2.2.2.2.2.2.2.1 rfl rfl ?_
    obtain rfl := Option.some.inj hR
    exact ret b_1.1 ⟨rfl, rfl⟩ (Nat.le_of_ble_eq_true rfl) (Nat.le_of_ble_eq_true rfl) dd_X6_mixResults_1.2.2.2.2.2.2.2.2.2.2.2.2.2.2.1
  refine y_loop (P := fun (s_1 : Int64 × Int32) => X p l e (yR 2 0 0) s m args below meth c D A H0 7 Q [[(x, .inr (8, [.ref xj, .ref xw, .ref xz, .ref xo, .ref xy, .ref xt]))], [(xz, .inr (5, [.ref xzv, .int xzr, .int xzc, .int xzs]))], [(xzv, .inr (6, [.ref xzvn]))], [(xzvn, .inl (cy 1, 81, .inl xzvf))]] 0 0 [(0, .ref x), (3, .long s_1.1), (5, .int s_1.2)] 5 []) ?_ _ (i1, 0) hb_1
  intro s_1 o_1 ho_1 hk_1 hx_1
  refine xr_iload (n := 7) (j := 2) C dd_X6_mixResults_0.2.2.2.2.1 rfl rfl ?_
  refine xr_aload_n (n := 8) (j := 0) C dd_X6_mixResults_0.2.2.2.2.2.1 rfl rfl ?_
  refine xr_get (n := 11) C 0 rfl rfl 2 (by decide) in_X6 u_291 rfl (v := .ref xz) rfl dd_X6_mixResults_0.2.2.2.2.2.2.1 rfl ?_
  refine xr_getN (n := 14) C 1 rfl rfl 1 (by decide) in_X3 RX6 (List.mem_of_getElem? (i := 21) rfl) rfl (v := .int xzr) rfl dd_X6_mixResults_0.2.2.2.2.2.2.2.1 rfl ?_
  refine xr_icmp_ge (tgt := 63) (n := 17) C dd_X6_mixResults_0.2.2.2.2.2.2.2.2.1 rfl rfl (fun c_2 => ?_) (fun c_2 => ?_)
  · replace ho_1 := yf_t c_2 ho_1
    refine xr_lv (lv' := [(3, .long s_1.1)]) [1] rfl ?_
    have e_3 := hx_1 _ (Option.some.inj ho_1).symm
    subst e_3
    exact K_1
  · replace ho_1 := yf_f c_2 ho_1
    refine xr_iconst (n := 18) (v := 0) C dd_X6_mixResults_0.2.2.2.2.2.2.2.2.2.1 rfl rfl ?_
    refine xr_istore (n := 20) C [(6, .int 0), (0, .ref x), (3, .long s_1.1), (5, .int s_1.2)] dd_X6_mixResults_0.2.2.2.2.2.2.2.2.2.2.1 (by decide) rfl rfl ?_
    refine xr_lv (lv' := [(0, .ref x), (3, .long s_1.1), (5, .int s_1.2), (6, .int 0)]) [1, 2, 3, 0] rfl ?_
    obtain ⟨b_4, hb_4, ho_1⟩ := yf_b ho_1
    have K_4 : X p l e (yR 2 0 0) s m args below meth c D A H0 7 Q [[(x, .inr (8, [.ref xj, .ref xw, .ref xz, .ref xo, .ref xy, .ref xt]))], [(xz, .inr (5, [.ref xzv, .int xzr, .int xzc, .int xzs]))], [(xzv, .inr (6, [.ref xzvn]))], [(xzvn, .inl (cy 1, 81, .inl xzvf))]] 0 0 [(0, .ref x), (3, .long b_4.1), (5, .int s_1.2)] 57 [] := by
      refine xr_iinc (j := 2) (v := s_1.2 + 1) (n := 60) C [(5, .int (s_1.2 + 1)), (0, .ref x), (3, .long b_4.1)] dd_X6_mixResults_1.2.2.2.2.2.2.2.2.2.2.2.1 rfl rfl (by decide) rfl rfl ?_
      refine xr_goto (tgt := 5) C dd_X6_mixResults_1.2.2.2.2.2.2.2.2.2.2.2.2.1 rfl ?_
      refine xr_lv (lv' := [(0, .ref x), (3, .long b_4.1), (5, .int (s_1.2 + 1))]) [1, 2, 0] rfl ?_
      exact hk_1 (b_4.1, s_1.2 + 1) (Option.some.inj ho_1).symm
    refine y_loop (P := fun (s_4 : Int64 × Int32) => X p l e (yR 2 0 0) s m args below meth c D A H0 7 Q [[(x, .inr (8, [.ref xj, .ref xw, .ref xz, .ref xo, .ref xy, .ref xt]))], [(xz, .inr (5, [.ref xzv, .int xzr, .int xzc, .int xzs]))], [(xzv, .inr (6, [.ref xzvn]))], [(xzvn, .inl (cy 1, 81, .inl xzvf))]] 0 0 [(0, .ref x), (3, .long s_4.1), (5, .int s_1.2), (6, .int s_4.2)] 20 []) ?_ _ (s_1.1, 0) hb_4
    intro s_4 o_4 ho_4 hk_4 hx_4
    refine xr_iload (n := 22) (j := 3) C dd_X6_mixResults_0.2.2.2.2.2.2.2.2.2.2.2.1 rfl rfl ?_
    refine xr_aload_n (n := 23) (j := 0) C dd_X6_mixResults_0.2.2.2.2.2.2.2.2.2.2.2.2.1 rfl rfl ?_
    refine xr_get (n := 26) C 0 rfl rfl 2 (by decide) in_X6 u_291 rfl (v := .ref xz) rfl dd_X6_mixResults_0.2.2.2.2.2.2.2.2.2.2.2.2.2.1 rfl ?_
    refine xr_getN (n := 29) C 1 rfl rfl 2 (by decide) in_X3 RX6 (List.mem_of_getElem? (i := 22) rfl) rfl (v := .int xzc) rfl dd_X6_mixResults_0.2.2.2.2.2.2.2.2.2.2.2.2.2.2.1 rfl ?_
    refine xr_icmp_ge (tgt := 57) (n := 32) C dd_X6_mixResults_0.2.2.2.2.2.2.2.2.2.2.2.2.2.2.2.1 rfl rfl (fun c_5 => ?_) (fun c_5 => ?_)
    · replace ho_4 := yf_t c_5 ho_4
      refine xr_lv (lv' := [(0, .ref x), (3, .long s_4.1), (5, .int s_1.2)]) [0, 1, 2] rfl ?_
      have e_6 := hx_4 _ (Option.some.inj ho_4).symm
      subst e_6
      exact K_4
    · replace ho_4 := yf_f c_5 ho_4
      refine xr_lload_n (n := 33) (j := 1) C dd_X6_mixResults_1.1 rfl rfl ?_
      refine xr_aload_n (n := 34) (j := 0) C dd_X6_mixResults_1.2.1 rfl rfl ?_
      refine xr_get (n := 37) C 0 rfl rfl 2 (by decide) in_X6 u_291 rfl (v := .ref xz) rfl dd_X6_mixResults_1.2.2.1 rfl ?_
      refine xr_getN (n := 40) C 1 rfl rfl 0 (by decide) in_X3 RX6 (List.mem_of_getElem? (i := 19) rfl) rfl (v := .ref xzv) rfl dd_X6_mixResults_1.2.2.2.1 rfl ?_
      refine xr_iload (n := 42) (j := 2) C dd_X6_mixResults_1.2.2.2.2.1 rfl rfl ?_
      refine xr_iload (n := 44) (j := 3) C dd_X6_mixResults_1.2.2.2.2.2.1 rfl rfl ?_
      obtain ⟨x_7, hx_7, ho_4⟩ := yf_b ho_4
      refine xr_callVp (n := 47) (As := [.int s_1.2, .int s_4.2]) (rest := [.long s_4.1]) C (kX4_get l D cy (h := xzv) (hn := xzvn) (hf := xzvf) (row := s_1.2) (col := s_4.2) hx_7) mX4_get u_492 u_341 u_342 2 rfl rfl 4 [2, 3] [0, 1] rfl (by decide +kernel) rfl rfl rfl rfl (Nat.le_of_ble_eq_true rfl) (Nat.le_of_ble_eq_true rfl) (Nat.le_of_ble_eq_true rfl) (Nat.le_of_ble_eq_true rfl) (Nat.le_of_ble_eq_true rfl) dd_X6_mixResults_1.2.2.2.2.2.2.1 rfl (fun _ _ hp => hp.2) (fun v_8 hp_10 => ?_)
      obtain ⟨rfl, -⟩ := hp_10
      refine xr_st (st' := [.int x_7, .long s_4.1]) rfl ?_
      obtain ⟨x_11, hx_11, ho_4⟩ := yf_b ho_4
      refine xr_callSp (n := 50) (As := [.long s_4.1, .int x_7]) (rest := []) C (kX6_mix l D cy (i1 := s_4.1) (i2 := x_7) hx_11) mX6_mix u_469 u_470 4 [] [0, 1, 2, 3] rfl (by decide +kernel) rfl rfl rfl rfl (Nat.le_of_ble_eq_true rfl) (Nat.le_of_ble_eq_true rfl) (Nat.le_of_ble_eq_true rfl) (Nat.le_of_ble_eq_true rfl) (Nat.le_of_ble_eq_true rfl) dd_X6_mixResults_1.2.2.2.2.2.2.2.1 rfl (fun _ _ hp => hp.2) (fun v_12 hp_14 => ?_)
      obtain ⟨rfl, -⟩ := hp_14
      refine xr_st (st' := [.long x_11]) rfl ?_
      refine xr_lstore_n (n := 51) C [(3, .long x_11), (0, .ref x), (5, .int s_1.2), (6, .int s_4.2)] dd_X6_mixResults_1.2.2.2.2.2.2.2.2.1 (by decide) rfl rfl ?_
      refine xr_iinc (j := 3) (v := s_4.2 + 1) (n := 54) C [(6, .int (s_4.2 + 1)), (3, .long x_11), (0, .ref x), (5, .int s_1.2)] dd_X6_mixResults_1.2.2.2.2.2.2.2.2.2.1 rfl rfl (by decide) rfl rfl ?_
      refine xr_goto (tgt := 20) C dd_X6_mixResults_1.2.2.2.2.2.2.2.2.2.2.1 rfl ?_
      refine xr_lv (lv' := [(0, .ref x), (3, .long x_11), (5, .int s_1.2), (6, .int (s_4.2 + 1))]) [2, 1, 3, 0] rfl ?_
      exact hk_4 (x_11, s_4.2 + 1) (Option.some.inj ho_4).symm
theorem dd_X6_mixPlain_0 : dk_R cX6_mixPlain [(0, .lload_n 1, 1), (1, .lstore_n 3, 1), (2, .iconst 0, 1), (3, .istore 5, 2), (5, .iload 5, 2), (7, .aload_n 0, 1), (8, .getfield 10, 3), (11, .invokevirtual 201, 3), (14, .if_icmp .ge 46, 3), (17, .iconst 0, 1), (18, .istore 6, 2), (20, .iload 6, 2), (22, .aload_n 0, 1), (23, .getfield 10, 3), (26, .invokevirtual 204, 3), (29, .if_icmp .ge 25, 3)] := dk_use _ _ (by decide +kernel)
theorem dd_X6_mixPlain_1 : dk_R cX6_mixPlain [(32, .lload_n 3, 1), (33, .aload_n 0, 1), (34, .getfield 10, 3), (37, .iload 5, 2), (39, .iload 6, 2), (41, .invokevirtual 209, 3), (44, .invokestatic 251, 3), (47, .lstore_n 3, 1), (48, .iinc 6 1, 3), (51, .goto (-31), 3), (54, .iinc 5 1, 3), (57, .goto (-52), 3), (60, .lload_n 3, 1), (61, .lreturn, 1)] := dk_use _ _ (by decide +kernel)
def fX6_mixPlain (xjr : Int32) (xjk : Int32) (xjc : Int32) (xjg : Int32) (xjs : Int32) (xjaf : Nat → Int32) (xjbf : Nat → Int32) (i1 : Int64) : Option (Int64) := ((wl (S := Int64 × Int32) (B := Int64 × Int32) (fun s_1 => ((fX1_rowsInAll xjr xjs).bind fun x_2 => (if x_2 ≤ s_1.2 then some (.inr (s_1.1, s_1.2)) else ((wl (S := Int64 × Int32) (B := Int64 × Int32) (fun s_8 => ((fX1_columnsInAll xjc xjs).bind fun x_9 => (if x_9 ≤ s_8.2 then some (.inr (s_8.1, s_8.2)) else ((fX1_plainOf xjr xjk xjc xjg xjaf xjbf s_1.2 s_8.2).bind fun x_15 => ((fX6_mix s_8.1 x_15).bind fun x_19 => some (.inl (x_19, s_8.2 + 1))))))) yFuel (s_1.1, 0)).bind fun b_8 => some (.inl (b_8.1, s_1.2 + 1)))))) yFuel (i1, 0)).bind fun b_1 => some b_1.1)
abbrev hX6_mixPlain : Cond := .code yX6_mixPlain cX6_mixPlain 7 (some .long)
theorem mX6_mixPlain : yM yX6_mixPlain hX6_mixPlain 1 := ⟨u_517, u_57, by decide +kernel, by decide +kernel, by decide +kernel⟩
set_option maxHeartbeats 4000000 in
set_option maxRecDepth 100000 in
theorem kX6_mixPlain (l : Launch) (D : va_G) (cy : Nat → ClassId) (x : Nat) (xj : Nat) (xw : Nat) (xz : Nat) (xo : Nat) (xy : Nat) (xt : Nat) (xja : Nat) (xjb : Nat) (xjr : Int32) (xjk : Int32) (xjc : Int32) (xjg : Int32) (xjs : Int32) (xjan : Nat) (xjaf : Nat → Int32) (xjbn : Nat) (xjbf : Nat → Int32) (i1 : Int64) {res : Int64} (hR : fX6_mixPlain xjr xjk xjc xjg xjs xjaf xjbf i1 = some res) : YM l D cy yX6_mixPlain hX6_mixPlain 5 0 0 [.ref x, .long i1] [[(x, .inr (8, [.ref xj, .ref xw, .ref xz, .ref xo, .ref xy, .ref xt]))], [(xj, .inr (3, [.ref xja, .ref xjb, .int xjr, .int xjk, .int xjc, .int xjg, .int xjs]))], [(xja, .inr (6, [.ref xjan]))], [(xjan, .inl (cy 1, 81, .inl xjaf))], [(xjb, .inr (6, [.ref xjbn]))], [(xjbn, .inl (cy 1, 81, .inl xjbf))]] (fun v u => v = some (.long res) ∧ u = [[(x, .inr (8, [.ref xj, .ref xw, .ref xz, .ref xo, .ref xy, .ref xt]))], [(xj, .inr (3, [.ref xja, .ref xjb, .int xjr, .int xjk, .int xjc, .int xjg, .int xjs]))], [(xja, .inr (6, [.ref xjan]))], [(xjan, .inl (cy 1, 81, .inl xjaf))], [(xjb, .inr (6, [.ref xjbn]))], [(xjbn, .inl (cy 1, 81, .inl xjbf))]]) := by
  unfold fX6_mixPlain at hR
  refine YM.ofL (cc := cX6_mixPlain) (maxL := 7) (ret := (some .long)) (by decide +kernel) rfl (Nat.le_of_ble_eq_true rfl) [(0, .ref x), (1, .long i1)] rfl rfl (fun p e s m args below meth c A H0 Q C hnm ret => ?_)
  refine xr_lload_n (n := 1) (j := 1) C dd_X6_mixPlain_0.1 rfl rfl ?_
  refine xr_lstore_n (n := 2) C [(3, .long i1), (0, .ref x), (1, .long i1)] dd_X6_mixPlain_0.2.1 (by decide) rfl rfl ?_
  refine xr_iconst (n := 3) (v := 0) C dd_X6_mixPlain_0.2.2.1 rfl rfl ?_
  refine xr_istore (n := 5) C [(5, .int 0), (3, .long i1), (0, .ref x), (1, .long i1)] dd_X6_mixPlain_0.2.2.2.1 (by decide) rfl rfl ?_
  refine xr_lv (lv' := [(0, .ref x), (3, .long i1), (5, .int 0)]) [2, 1, 0] rfl ?_
  obtain ⟨b_1, hb_1, hR⟩ := yf_b hR
  have K_1 : X p l e (yR 5 0 0) s m args below meth c D A H0 7 Q [[(x, .inr (8, [.ref xj, .ref xw, .ref xz, .ref xo, .ref xy, .ref xt]))], [(xj, .inr (3, [.ref xja, .ref xjb, .int xjr, .int xjk, .int xjc, .int xjg, .int xjs]))], [(xja, .inr (6, [.ref xjan]))], [(xjan, .inl (cy 1, 81, .inl xjaf))], [(xjb, .inr (6, [.ref xjbn]))], [(xjbn, .inl (cy 1, 81, .inl xjbf))]] 0 0 [(3, .long b_1.1)] 60 [] := by
    refine xr_lload_n (n := 61) (j := 0) C dd_X6_mixPlain_1.2.2.2.2.2.2.2.2.2.2.2.2.1 rfl rfl ?_
    obtain rfl := Option.some.inj hR
    exact ret b_1.1 ⟨rfl, rfl⟩ (Nat.le_of_ble_eq_true rfl) (Nat.le_of_ble_eq_true rfl) dd_X6_mixPlain_1.2.2.2.2.2.2.2.2.2.2.2.2.2.1
  refine y_loop (P := fun (s_1 : Int64 × Int32) => X p l e (yR 5 0 0) s m args below meth c D A H0 7 Q [[(x, .inr (8, [.ref xj, .ref xw, .ref xz, .ref xo, .ref xy, .ref xt]))], [(xj, .inr (3, [.ref xja, .ref xjb, .int xjr, .int xjk, .int xjc, .int xjg, .int xjs]))], [(xja, .inr (6, [.ref xjan]))], [(xjan, .inl (cy 1, 81, .inl xjaf))], [(xjb, .inr (6, [.ref xjbn]))], [(xjbn, .inl (cy 1, 81, .inl xjbf))]] 0 0 [(0, .ref x), (3, .long s_1.1), (5, .int s_1.2)] 5 []) ?_ _ (i1, 0) hb_1
  intro s_1 o_1 ho_1 hk_1 hx_1
  refine xr_iload (n := 7) (j := 2) C dd_X6_mixPlain_0.2.2.2.2.1 rfl rfl ?_
  refine xr_aload_n (n := 8) (j := 0) C dd_X6_mixPlain_0.2.2.2.2.2.1 rfl rfl ?_
  refine xr_get (n := 11) C 0 rfl rfl 0 (by decide) in_X6 u_289 rfl (v := .ref xj) rfl dd_X6_mixPlain_0.2.2.2.2.2.2.1 rfl ?_
  obtain ⟨x_2, hx_2, ho_1⟩ := yf_b ho_1
  refine xr_callVp (n := 14) (As := []) (rest := [.int s_1.2]) C (kX1_rowsInAll l D cy (j := xj) (ja := xja) (jb := xjb) (jr := xjr) (jk := xjk) (jc := xjc) (jg := xjg) (js := xjs) hx_2) mX1_rowsInAll u_518 u_321 u_322 1 rfl rfl 6 [1] [0, 2, 3, 4, 5] rfl (by decide +kernel) rfl rfl rfl rfl (Nat.le_of_ble_eq_true rfl) (Nat.le_of_ble_eq_true rfl) (Nat.le_of_ble_eq_true rfl) (Nat.le_of_ble_eq_true rfl) (Nat.le_of_ble_eq_true rfl) dd_X6_mixPlain_0.2.2.2.2.2.2.2.1 rfl (fun _ _ hp => hp.2) (fun v_3 hp_5 => ?_)
  obtain ⟨rfl, -⟩ := hp_5
  refine xr_st (st' := [.int x_2, .int s_1.2]) rfl ?_
  refine xr_icmp_ge (tgt := 60) (n := 17) C dd_X6_mixPlain_0.2.2.2.2.2.2.2.2.1 rfl rfl (fun c_6 => ?_) (fun c_6 => ?_)
  · replace ho_1 := yf_t c_6 ho_1
    refine xr_lv (lv' := [(3, .long s_1.1)]) [1] rfl ?_
    have e_7 := hx_1 _ (Option.some.inj ho_1).symm
    subst e_7
    exact K_1
  · replace ho_1 := yf_f c_6 ho_1
    refine xr_iconst (n := 18) (v := 0) C dd_X6_mixPlain_0.2.2.2.2.2.2.2.2.2.1 rfl rfl ?_
    refine xr_istore (n := 20) C [(6, .int 0), (0, .ref x), (3, .long s_1.1), (5, .int s_1.2)] dd_X6_mixPlain_0.2.2.2.2.2.2.2.2.2.2.1 (by decide) rfl rfl ?_
    refine xr_lv (lv' := [(0, .ref x), (3, .long s_1.1), (5, .int s_1.2), (6, .int 0)]) [1, 2, 3, 0] rfl ?_
    obtain ⟨b_8, hb_8, ho_1⟩ := yf_b ho_1
    have K_8 : X p l e (yR 5 0 0) s m args below meth c D A H0 7 Q [[(x, .inr (8, [.ref xj, .ref xw, .ref xz, .ref xo, .ref xy, .ref xt]))], [(xj, .inr (3, [.ref xja, .ref xjb, .int xjr, .int xjk, .int xjc, .int xjg, .int xjs]))], [(xja, .inr (6, [.ref xjan]))], [(xjan, .inl (cy 1, 81, .inl xjaf))], [(xjb, .inr (6, [.ref xjbn]))], [(xjbn, .inl (cy 1, 81, .inl xjbf))]] 0 0 [(0, .ref x), (3, .long b_8.1), (5, .int s_1.2)] 54 [] := by
      refine xr_iinc (j := 2) (v := s_1.2 + 1) (n := 57) C [(5, .int (s_1.2 + 1)), (0, .ref x), (3, .long b_8.1)] dd_X6_mixPlain_1.2.2.2.2.2.2.2.2.2.2.1 rfl rfl (by decide) rfl rfl ?_
      refine xr_goto (tgt := 5) C dd_X6_mixPlain_1.2.2.2.2.2.2.2.2.2.2.2.1 rfl ?_
      refine xr_lv (lv' := [(0, .ref x), (3, .long b_8.1), (5, .int (s_1.2 + 1))]) [1, 2, 0] rfl ?_
      exact hk_1 (b_8.1, s_1.2 + 1) (Option.some.inj ho_1).symm
    refine y_loop (P := fun (s_8 : Int64 × Int32) => X p l e (yR 5 0 0) s m args below meth c D A H0 7 Q [[(x, .inr (8, [.ref xj, .ref xw, .ref xz, .ref xo, .ref xy, .ref xt]))], [(xj, .inr (3, [.ref xja, .ref xjb, .int xjr, .int xjk, .int xjc, .int xjg, .int xjs]))], [(xja, .inr (6, [.ref xjan]))], [(xjan, .inl (cy 1, 81, .inl xjaf))], [(xjb, .inr (6, [.ref xjbn]))], [(xjbn, .inl (cy 1, 81, .inl xjbf))]] 0 0 [(0, .ref x), (3, .long s_8.1), (5, .int s_1.2), (6, .int s_8.2)] 20 []) ?_ _ (s_1.1, 0) hb_8
    intro s_8 o_8 ho_8 hk_8 hx_8
    refine xr_iload (n := 22) (j := 3) C dd_X6_mixPlain_0.2.2.2.2.2.2.2.2.2.2.2.1 rfl rfl ?_
    refine xr_aload_n (n := 23) (j := 0) C dd_X6_mixPlain_0.2.2.2.2.2.2.2.2.2.2.2.2.1 rfl rfl ?_
    refine xr_get (n := 26) C 0 rfl rfl 0 (by decide) in_X6 u_289 rfl (v := .ref xj) rfl dd_X6_mixPlain_0.2.2.2.2.2.2.2.2.2.2.2.2.2.1 rfl ?_
    obtain ⟨x_9, hx_9, ho_8⟩ := yf_b ho_8
    refine xr_callVp (n := 29) (As := []) (rest := [.int s_8.2]) C (kX1_columnsInAll l D cy (j := xj) (ja := xja) (jb := xjb) (jr := xjr) (jk := xjk) (jc := xjc) (jg := xjg) (js := xjs) hx_9) mX1_columnsInAll u_519 u_325 u_326 1 rfl rfl 6 [1] [0, 2, 3, 4, 5] rfl (by decide +kernel) rfl rfl rfl rfl (Nat.le_of_ble_eq_true rfl) (Nat.le_of_ble_eq_true rfl) (Nat.le_of_ble_eq_true rfl) (Nat.le_of_ble_eq_true rfl) (Nat.le_of_ble_eq_true rfl) dd_X6_mixPlain_0.2.2.2.2.2.2.2.2.2.2.2.2.2.2.1 rfl (fun _ _ hp => hp.2) (fun v_10 hp_12 => ?_)
    obtain ⟨rfl, -⟩ := hp_12
    refine xr_st (st' := [.int x_9, .int s_8.2]) rfl ?_
    refine xr_icmp_ge (tgt := 54) (n := 32) C dd_X6_mixPlain_0.2.2.2.2.2.2.2.2.2.2.2.2.2.2.2.1 rfl rfl (fun c_13 => ?_) (fun c_13 => ?_)
    · replace ho_8 := yf_t c_13 ho_8
      refine xr_lv (lv' := [(0, .ref x), (3, .long s_8.1), (5, .int s_1.2)]) [0, 1, 2] rfl ?_
      have e_14 := hx_8 _ (Option.some.inj ho_8).symm
      subst e_14
      exact K_8
    · replace ho_8 := yf_f c_13 ho_8
      refine xr_lload_n (n := 33) (j := 1) C dd_X6_mixPlain_1.1 rfl rfl ?_
      refine xr_aload_n (n := 34) (j := 0) C dd_X6_mixPlain_1.2.1 rfl rfl ?_
      refine xr_get (n := 37) C 0 rfl rfl 0 (by decide) in_X6 u_289 rfl (v := .ref xj) rfl dd_X6_mixPlain_1.2.2.1 rfl ?_
      refine xr_iload (n := 39) (j := 2) C dd_X6_mixPlain_1.2.2.2.1 rfl rfl ?_
      refine xr_iload (n := 41) (j := 3) C dd_X6_mixPlain_1.2.2.2.2.1 rfl rfl ?_
      obtain ⟨x_15, hx_15, ho_8⟩ := yf_b ho_8
      refine xr_callVp (n := 44) (As := [.int s_1.2, .int s_8.2]) (rest := [.long s_8.1]) C (kX1_plainOf l D cy (j := xj) (ja := xja) (jb := xjb) (jr := xjr) (jk := xjk) (jc := xjc) (jg := xjg) (js := xjs) (jan := xjan) (jaf := xjaf) (jbn := xjbn) (jbf := xjbf) (i1 := s_1.2) (i2 := s_8.2) hx_15) mX1_plainOf u_520 u_521 u_522 1 rfl rfl 6 [1, 2, 3, 4, 5] [0] rfl (by decide +kernel) rfl rfl rfl rfl (Nat.le_of_ble_eq_true rfl) (Nat.le_of_ble_eq_true rfl) (Nat.le_of_ble_eq_true rfl) (Nat.le_of_ble_eq_true rfl) (Nat.le_of_ble_eq_true rfl) dd_X6_mixPlain_1.2.2.2.2.2.1 rfl (fun _ _ hp => hp.2) (fun v_16 hp_18 => ?_)
      obtain ⟨rfl, -⟩ := hp_18
      refine xr_st (st' := [.int x_15, .long s_8.1]) rfl ?_
      obtain ⟨x_19, hx_19, ho_8⟩ := yf_b ho_8
      refine xr_callSp (n := 47) (As := [.long s_8.1, .int x_15]) (rest := []) C (kX6_mix l D cy (i1 := s_8.1) (i2 := x_15) hx_19) mX6_mix u_469 u_470 6 [] [0, 1, 2, 3, 4, 5] rfl (by decide +kernel) rfl rfl rfl rfl (Nat.le_of_ble_eq_true rfl) (Nat.le_of_ble_eq_true rfl) (Nat.le_of_ble_eq_true rfl) (Nat.le_of_ble_eq_true rfl) (Nat.le_of_ble_eq_true rfl) dd_X6_mixPlain_1.2.2.2.2.2.2.1 rfl (fun _ _ hp => hp.2) (fun v_20 hp_22 => ?_)
      obtain ⟨rfl, -⟩ := hp_22
      refine xr_st (st' := [.long x_19]) rfl ?_
      refine xr_lstore_n (n := 48) C [(3, .long x_19), (0, .ref x), (5, .int s_1.2), (6, .int s_8.2)] dd_X6_mixPlain_1.2.2.2.2.2.2.2.1 (by decide) rfl rfl ?_
      refine xr_iinc (j := 3) (v := s_8.2 + 1) (n := 51) C [(6, .int (s_8.2 + 1)), (3, .long x_19), (0, .ref x), (5, .int s_1.2)] dd_X6_mixPlain_1.2.2.2.2.2.2.2.2.1 rfl rfl (by decide) rfl rfl ?_
      refine xr_goto (tgt := 20) C dd_X6_mixPlain_1.2.2.2.2.2.2.2.2.2.1 rfl ?_
      refine xr_lv (lv' := [(0, .ref x), (3, .long x_19), (5, .int s_1.2), (6, .int (s_8.2 + 1))]) [2, 1, 3, 0] rfl ?_
      exact hk_8 (x_19, s_8.2 + 1) (Option.some.inj ho_8).symm
theorem dd_X6_digest_0 : dk_R cX6_digest [(0, .aload_n 0, 1), (1, .invokevirtual 143, 3), (4, .ldc2_w 249, 3), (7, .lstore_n 1, 1), (8, .iconst 0, 1), (9, .istore_n 3, 1), (10, .iload_n 3, 1), (11, .bipush 15, 2), (13, .if_icmp .gt 19, 3), (16, .lload_n 1, 1), (17, .aload_n 0, 1), (18, .iload_n 3, 1), (19, .invokevirtual 192, 3), (22, .invokestatic 251, 3), (25, .lstore_n 1, 1), (26, .iinc 3 1, 3)] := dk_use _ _ (by decide +kernel)
theorem dd_X6_digest_1 : dk_R cX6_digest [(29, .goto (-19), 3), (32, .aload_n 0, 1), (33, .lload_n 1, 1), (34, .invokevirtual 255, 3), (37, .lstore_n 1, 1), (38, .aload_n 0, 1), (39, .lload_n 1, 1), (40, .invokevirtual 259, 3), (43, .lstore_n 1, 1), (44, .aload_n 0, 1), (45, .lload_n 1, 1), (46, .invokevirtual 262, 3), (49, .lstore_n 1, 1), (50, .iconst 0, 1), (51, .istore_n 3, 1), (52, .iload_n 3, 1)] := dk_use _ _ (by decide +kernel)
theorem dd_X6_digest_2 : dk_R cX6_digest [(53, .iconst 4, 1), (54, .if_icmp .gt 19, 3), (57, .lload_n 1, 1), (58, .aload_n 0, 1), (59, .iload_n 3, 1), (60, .invokevirtual 240, 3), (63, .invokestatic 251, 3), (66, .lstore_n 1, 1), (67, .iinc 3 1, 3), (70, .goto (-18), 3), (73, .lload_n 1, 1), (74, .aload_n 0, 1), (75, .invokevirtual 243, 3), (78, .invokestatic 251, 3), (81, .lstore_n 1, 1), (82, .lload_n 1, 1)] := dk_use _ _ (by decide +kernel)
theorem dd_X6_digest_3 : dk_R cX6_digest [(83, .aload_n 0, 1), (84, .invokevirtual 246, 3), (87, .ifCond .eq 7, 3), (90, .iconst 1, 1), (91, .goto 4, 3), (94, .iconst 0, 1), (95, .invokestatic 251, 3), (98, .lreturn, 1)] := dk_use _ _ (by decide +kernel)
def fX6_digest (xjr : Int32) (xjk : Int32) (xjc : Int32) (xjg : Int32) (xjs : Int32) (xjaf : Nat → Int32) (xjbf : Nat → Int32) (xwb : Int32) (xwk : Int32) (xwuf : Nat → Int32) (xwmf : Nat → Int32) (xzr : Int32) (xzc : Int32) (xzvf : Nat → Int32) (xoti : Int32) (xofr : Int32) (xofc : Int32) (xobt : Int32) (xobl : Int32) (xobe : Int32) (xose : Int32) (xotk : Int32) (xoy0 : Int32) (xoy1 : Int32) (xoy2 : Int32) (xoy3 : Int32) (xoy4 : Int32) (xoy5 : Int32) (xoy6 : Int32) (xoy7 : Int32) (xoy8 : Int32) (xt3 : Int32) (xt4 : Int32) (xt5 : Int32) (xt6 : Int32) (xt7 : Int32) (xt8 : Int32) (xt9 : Int32) : Option (Int64 × Int32 × Int32 × Int32 × Int32 × Int32 × Int32 × Int32 × Int32 × Int32 × Int32 × Int32 × Int32 × Int32 × Int32 × Int32 × Int32 × Int32 × Int32 × Int32 × Int32) := ((fX6_findBest xjr xjk xjc xjg xjs xjaf xjbf xwk xt3 xt4 xt5 xt6 xt7 xt8 xt9).bind fun x_1 => ((wl (S := Int64 × Int32) (B := Int64 × Int32) (fun s_5 => (if 15 < s_5.2 then some (.inr (s_5.1, s_5.2)) else ((fX6_meshNumber xjr xjk xjc xjg xjs xjaf xjbf xwb xwk xzr xzc xoti xobl xobe xose s_5.2).bind fun x_52 => ((fX6_mix s_5.1 x_52).bind fun x_56 => some (.inl (x_56, s_5.2 + 1)))))) yFuel (5659, 0)).bind fun b_5 => ((fX6_mixCells xwb xwk xwuf xwmf xofr xofc xobt xobl xoy0 xoy1 xoy2 xoy3 xoy4 xoy5 xoy6 b_5.1).bind fun x_6 => ((fX6_mixResults xzr xzc xzvf x_6).bind fun x_10 => ((fX6_mixPlain xjr xjk xjc xjg xjs xjaf xjbf x_10).bind fun x_14 => ((wl (S := Int64 × Int32) (B := Int64 × Int32) (fun s_18 => (if 4 < s_18.2 then some (.inr (s_18.1, s_18.2)) else ((fX6_bestNumber x_1.1 x_1.2.1 x_1.2.2.1 x_1.2.2.2.1 x_1.2.2.2.2.1 x_1.2.2.2.2.2.2.2.1 x_1.2.2.2.2.2.2.2.2.1 x_1.2.2.2.2.2.2.2.2.2.1 s_18.2).bind fun x_42 => ((fX6_mix s_18.1 x_42).bind fun x_46 => some (.inl (x_46, s_18.2 + 1)))))) yFuel (x_14, 0)).bind fun b_18 => ((fX6_savedBeats xjk x_1.2.2.1 x_1.2.2.2.2.2.2.2.1 x_1.2.2.2.2.2.2.2.2.1).bind fun x_19 => ((fX6_mix b_18.1 x_19).bind fun x_23 => ((fX6_isAllSound xwb xwk xwuf xoti xofr xofc xobt xobl xotk xoy0 xoy1 xoy2 xoy5 xoy6 xoy7 xoy8 x_1.2.2.2.1 x_1.2.2.2.2.1 x_1.2.2.2.2.2.2.2.2.2.1 x_1.2.2.2.2.2.2.2.2.2.2.1 x_1.2.2.2.2.2.2.2.2.2.2.2.1 x_1.2.2.2.2.2.2.2.2.2.2.2.2.1 x_1.2.2.2.2.2.2.2.2.2.2.2.2.2.1 x_1.2.2.2.2.2.2.2.2.2.2.2.2.2.2.1 x_1.2.2.2.2.2.2.2.2.2.2.2.2.2.2.2.1 x_1.2.2.2.2.2.2.2.2.2.2.2.2.2.2.2.2.1 x_1.2.2.2.2.2.2.2.2.2.2.2.2.2.2.2.2.2.1 x_1.2.2.2.2.2.2.2.2.2.2.2.2.2.2.2.2.2.2.1 x_1.2.2.2.2.2.2.2.2.2.2.2.2.2.2.2.2.2.2.2).bind fun x_27 => (if x_27.1 = 0 then ((fX6_mix x_23 0).bind fun x_32 => some (x_32, x_1.1, x_1.2.1, x_1.2.2.1, x_1.2.2.2.1, x_1.2.2.2.2.1, x_1.2.2.2.2.2.1, x_1.2.2.2.2.2.2.1, x_1.2.2.2.2.2.2.2.1, x_1.2.2.2.2.2.2.2.2.1, x_1.2.2.2.2.2.2.2.2.2.1, x_1.2.2.2.2.2.2.2.2.2.2.1, x_1.2.2.2.2.2.2.2.2.2.2.2.1, x_1.2.2.2.2.2.2.2.2.2.2.2.2.1, x_27.2.1, x_27.2.2.1, x_27.2.2.2.1, x_27.2.2.2.2.1, x_27.2.2.2.2.2.1, x_27.2.2.2.2.2.2.1, x_27.2.2.2.2.2.2.2)) else ((fX6_mix x_23 1).bind fun x_36 => some (x_36, x_1.1, x_1.2.1, x_1.2.2.1, x_1.2.2.2.1, x_1.2.2.2.2.1, x_1.2.2.2.2.2.1, x_1.2.2.2.2.2.2.1, x_1.2.2.2.2.2.2.2.1, x_1.2.2.2.2.2.2.2.2.1, x_1.2.2.2.2.2.2.2.2.2.1, x_1.2.2.2.2.2.2.2.2.2.2.1, x_1.2.2.2.2.2.2.2.2.2.2.2.1, x_1.2.2.2.2.2.2.2.2.2.2.2.2.1, x_27.2.1, x_27.2.2.1, x_27.2.2.2.1, x_27.2.2.2.2.1, x_27.2.2.2.2.2.1, x_27.2.2.2.2.2.2.1, x_27.2.2.2.2.2.2.2))))))))))))
abbrev hX6_digest : Cond := .code yX6_digest cX6_digest 4 (some .long)
theorem mX6_digest : yM yX6_digest hX6_digest 0 := ⟨u_459, u_57, by decide +kernel, by decide +kernel, by decide +kernel⟩
set_option maxHeartbeats 4000000 in
set_option maxRecDepth 100000 in
theorem kX6_digest (l : Launch) (D : va_G) (cy : Nat → ClassId) (x : Nat) (xj : Nat) (xw : Nat) (xz : Nat) (xo : Nat) (xy : Nat) (xt : Nat) (xja : Nat) (xjb : Nat) (xjr : Int32) (xjk : Int32) (xjc : Int32) (xjg : Int32) (xjs : Int32) (xjan : Nat) (xjaf : Nat → Int32) (xjbn : Nat) (xjbf : Nat → Int32) (xwu : Nat) (xwm : Nat) (xwb : Int32) (xwk : Int32) (xwun : Nat) (xwuf : Nat → Int32) (xwmn : Nat) (xwmf : Nat → Int32) (xzv : Nat) (xzr : Int32) (xzc : Int32) (xzs : Int32) (xzvn : Nat) (xzvf : Nat → Int32) (xoj : Nat) (xoy : Nat) (xosk : Int32) (xoti : Int32) (xofr : Int32) (xofc : Int32) (xobt : Int32) (xobl : Int32) (xobe : Int32) (xose : Int32) (xotk : Int32) (xoy0 : Int32) (xoy1 : Int32) (xoy2 : Int32) (xoy3 : Int32) (xoy4 : Int32) (xoy5 : Int32) (xoy6 : Int32) (xoy7 : Int32) (xoy8 : Int32) (xoy9 : Int32) (xy0 : Int32) (xy1 : Int32) (xy2 : Int32) (xy3 : Int32) (xy4 : Int32) (xy5 : Int32) (xy6 : Int32) (xy7 : Int32) (xy8 : Int32) (xy9 : Int32) (xt0 : Int32) (xt1 : Int32) (xt2 : Int32) (xt3 : Int32) (xt4 : Int32) (xt5 : Int32) (xt6 : Int32) (xt7 : Int32) (xt8 : Int32) (xt9 : Int32) {res : Int64 × Int32 × Int32 × Int32 × Int32 × Int32 × Int32 × Int32 × Int32 × Int32 × Int32 × Int32 × Int32 × Int32 × Int32 × Int32 × Int32 × Int32 × Int32 × Int32 × Int32} (hR : fX6_digest xjr xjk xjc xjg xjs xjaf xjbf xwb xwk xwuf xwmf xzr xzc xzvf xoti xofr xofc xobt xobl xobe xose xotk xoy0 xoy1 xoy2 xoy3 xoy4 xoy5 xoy6 xoy7 xoy8 xt3 xt4 xt5 xt6 xt7 xt8 xt9 = some res) : YM l D cy yX6_digest hX6_digest 7 0 0 [.ref x] [[(x, .inr (8, [.ref xj, .ref xw, .ref xz, .ref xo, .ref xy, .ref xt]))], [(xj, .inr (3, [.ref xja, .ref xjb, .int xjr, .int xjk, .int xjc, .int xjg, .int xjs]))], [(xja, .inr (6, [.ref xjan]))], [(xjan, .inl (cy 1, 81, .inl xjaf))], [(xjb, .inr (6, [.ref xjbn]))], [(xjbn, .inl (cy 1, 81, .inl xjbf))], [(xw, .inr (2, [.ref xwu, .ref xwm, .int xwb, .int xwk]))], [(xwu, .inr (6, [.ref xwun]))], [(xwun, .inl (cy 1, 81, .inl xwuf))], [(xwm, .inr (6, [.ref xwmn]))], [(xwmn, .inl (cy 1, 81, .inl xwmf))], [(xz, .inr (5, [.ref xzv, .int xzr, .int xzc, .int xzs]))], [(xzv, .inr (6, [.ref xzvn]))], [(xzvn, .inl (cy 1, 81, .inl xzvf))], [(xo, .inr (7, [.ref xoj, .ref xoy, .int xosk, .int xoti, .int xofr, .int xofc, .int xobt, .int xobl, .int xobe, .int xose, .int xotk]))], [(xoy, .inr (4, [.int xoy0, .int xoy1, .int xoy2, .int xoy3, .int xoy4, .int xoy5, .int xoy6, .int xoy7, .int xoy8, .int xoy9]))], [(xy, .inr (4, [.int xy0, .int xy1, .int xy2, .int xy3, .int xy4, .int xy5, .int xy6, .int xy7, .int xy8, .int xy9]))], [(xt, .inr (4, [.int xt0, .int xt1, .int xt2, .int xt3, .int xt4, .int xt5, .int xt6, .int xt7, .int xt8, .int xt9]))]] (fun v u => v = some (.long res.1) ∧ u = [[(x, .inr (8, [.ref xj, .ref xw, .ref xz, .ref xo, .ref xy, .ref xt]))], [(xj, .inr (3, [.ref xja, .ref xjb, .int xjr, .int xjk, .int xjc, .int xjg, .int xjs]))], [(xja, .inr (6, [.ref xjan]))], [(xjan, .inl (cy 1, 81, .inl xjaf))], [(xjb, .inr (6, [.ref xjbn]))], [(xjbn, .inl (cy 1, 81, .inl xjbf))], [(xw, .inr (2, [.ref xwu, .ref xwm, .int xwb, .int xwk]))], [(xwu, .inr (6, [.ref xwun]))], [(xwun, .inl (cy 1, 81, .inl xwuf))], [(xwm, .inr (6, [.ref xwmn]))], [(xwmn, .inl (cy 1, 81, .inl xwmf))], [(xz, .inr (5, [.ref xzv, .int xzr, .int xzc, .int xzs]))], [(xzv, .inr (6, [.ref xzvn]))], [(xzvn, .inl (cy 1, 81, .inl xzvf))], [(xo, .inr (7, [.ref xoj, .ref xoy, .int xosk, .int xoti, .int xofr, .int xofc, .int xobt, .int xobl, .int xobe, .int xose, .int xotk]))], [(xoy, .inr (4, [.int xoy0, .int xoy1, .int xoy2, .int xoy3, .int xoy4, .int xoy5, .int xoy6, .int xoy7, .int xoy8, .int xoy9]))], [(xy, .inr (4, [.int res.2.1, .int res.2.2.1, .int res.2.2.2.1, .int res.2.2.2.2.1, .int res.2.2.2.2.2.1, .int res.2.2.2.2.2.2.1, .int res.2.2.2.2.2.2.2.1, .int res.2.2.2.2.2.2.2.2.1, .int res.2.2.2.2.2.2.2.2.2.1, .int res.2.2.2.2.2.2.2.2.2.2.1]))], [(xt, .inr (4, [.int res.2.2.2.2.2.2.2.2.2.2.2.1, .int res.2.2.2.2.2.2.2.2.2.2.2.2.1, .int res.2.2.2.2.2.2.2.2.2.2.2.2.2.1, .int res.2.2.2.2.2.2.2.2.2.2.2.2.2.2.1, .int res.2.2.2.2.2.2.2.2.2.2.2.2.2.2.2.1, .int res.2.2.2.2.2.2.2.2.2.2.2.2.2.2.2.2.1, .int res.2.2.2.2.2.2.2.2.2.2.2.2.2.2.2.2.2.1, .int res.2.2.2.2.2.2.2.2.2.2.2.2.2.2.2.2.2.2.1, .int res.2.2.2.2.2.2.2.2.2.2.2.2.2.2.2.2.2.2.2.1, .int res.2.2.2.2.2.2.2.2.2.2.2.2.2.2.2.2.2.2.2.2]))]]) := by
  unfold fX6_digest at hR
  refine YM.ofL (cc := cX6_digest) (maxL := 4) (ret := (some .long)) (by decide +kernel) rfl (Nat.le_of_ble_eq_true rfl) [(0, .ref x)] rfl rfl (fun p e s m args below meth c A H0 Q C hnm ret => ?_)
  refine xr_aload_n (n := 1) (j := 0) C dd_X6_digest_0.1 rfl rfl ?_
  obtain ⟨x_1, hx_1, hR⟩ := yf_b hR
  refine xr_callV (n := 4) (As := []) (rest := []) C (kX6_findBest l D cy (x := x) (xj := xj) (xw := xw) (xz := xz) (xo := xo) (xy := xy) (xt := xt) (xja := xja) (xjb := xjb) (xjr := xjr) (xjk := xjk) (xjc := xjc) (xjg := xjg) (xjs := xjs) (xjan := xjan) (xjaf := xjaf) (xjbn := xjbn) (xjbf := xjbf) (xwu := xwu) (xwm := xwm) (xwb := xwb) (xwk := xwk) (xy0 := xy0) (xy1 := xy1) (xy2 := xy2) (xy3 := xy3) (xy4 := xy4) (xy5 := xy5) (xy6 := xy6) (xy7 := xy7) (xy8 := xy8) (xy9 := xy9) (xt0 := xt0) (xt1 := xt1) (xt2 := xt2) (xt3 := xt3) (xt4 := xt4) (xt5 := xt5) (xt6 := xt6) (xt7 := xt7) (xt8 := xt8) (xt9 := xt9) hx_1) mX6_findBest u_312 u_314 u_0 0 rfl rfl 18 [0, 1, 2, 3, 4, 5, 6, 16, 17] [7, 8, 9, 10, 11, 12, 13, 14, 15] rfl (by decide +kernel) rfl rfl rfl rfl (Nat.le_of_ble_eq_true rfl) (Nat.le_of_ble_eq_true rfl) (Nat.le_of_ble_eq_true rfl) (Nat.le_of_ble_eq_true rfl) (Nat.le_of_ble_eq_true rfl) dd_X6_digest_0.2.1 rfl (fun v_2 u_3 hp_4 => ?_)
  obtain ⟨rfl, rfl⟩ := hp_4
  refine xr_perm C 18 [0, 1, 2, 3, 4, 5, 6, 9, 10, 11, 12, 13, 14, 15, 16, 17, 7, 8] [] [[(x, .inr (8, [.ref xj, .ref xw, .ref xz, .ref xo, .ref xy, .ref xt]))], [(xj, .inr (3, [.ref xja, .ref xjb, .int xjr, .int xjk, .int xjc, .int xjg, .int xjs]))], [(xja, .inr (6, [.ref xjan]))], [(xjan, .inl (cy 1, 81, .inl xjaf))], [(xjb, .inr (6, [.ref xjbn]))], [(xjbn, .inl (cy 1, 81, .inl xjbf))], [(xw, .inr (2, [.ref xwu, .ref xwm, .int xwb, .int xwk]))], [(xwu, .inr (6, [.ref xwun]))], [(xwun, .inl (cy 1, 81, .inl xwuf))], [(xwm, .inr (6, [.ref xwmn]))], [(xwmn, .inl (cy 1, 81, .inl xwmf))], [(xz, .inr (5, [.ref xzv, .int xzr, .int xzc, .int xzs]))], [(xzv, .inr (6, [.ref xzvn]))], [(xzvn, .inl (cy 1, 81, .inl xzvf))], [(xo, .inr (7, [.ref xoj, .ref xoy, .int xosk, .int xoti, .int xofr, .int xofc, .int xobt, .int xobl, .int xobe, .int xose, .int xotk]))], [(xoy, .inr (4, [.int xoy0, .int xoy1, .int xoy2, .int xoy3, .int xoy4, .int xoy5, .int xoy6, .int xoy7, .int xoy8, .int xoy9]))], [(xy, .inr (4, [.int x_1.1, .int x_1.2.1, .int x_1.2.2.1, .int x_1.2.2.2.1, .int x_1.2.2.2.2.1, .int x_1.2.2.2.2.2.1, .int x_1.2.2.2.2.2.2.1, .int x_1.2.2.2.2.2.2.2.1, .int x_1.2.2.2.2.2.2.2.2.1, .int x_1.2.2.2.2.2.2.2.2.2.1]))], [(xt, .inr (4, [.int x_1.2.2.2.2.2.2.2.2.2.2.1, .int x_1.2.2.2.2.2.2.2.2.2.2.2.1, .int x_1.2.2.2.2.2.2.2.2.2.2.2.2.1, .int x_1.2.2.2.2.2.2.2.2.2.2.2.2.2.1, .int x_1.2.2.2.2.2.2.2.2.2.2.2.2.2.2.1, .int x_1.2.2.2.2.2.2.2.2.2.2.2.2.2.2.2.1, .int x_1.2.2.2.2.2.2.2.2.2.2.2.2.2.2.2.2.1, .int x_1.2.2.2.2.2.2.2.2.2.2.2.2.2.2.2.2.2.1, .int x_1.2.2.2.2.2.2.2.2.2.2.2.2.2.2.2.2.2.2.1, .int x_1.2.2.2.2.2.2.2.2.2.2.2.2.2.2.2.2.2.2.2]))]] rfl (by decide +kernel) rfl ?_
  refine xr_ldc2 (n := 7) (v := 5659) C u_460 dd_X6_digest_0.2.2.1 rfl ?_
  refine xr_lstore_n (n := 8) C [(1, .long 5659), (0, .ref x)] dd_X6_digest_0.2.2.2.1 (by decide) rfl rfl ?_
  refine xr_iconst (n := 9) (v := 0) C dd_X6_digest_0.2.2.2.2.1 rfl rfl ?_
  refine xr_istore_n (n := 10) C [(3, .int 0), (1, .long 5659), (0, .ref x)] dd_X6_digest_0.2.2.2.2.2.1 (by decide) rfl rfl ?_
  refine xr_lv (lv' := [(0, .ref x), (1, .long 5659), (3, .int 0)]) [2, 1, 0] rfl ?_
  obtain ⟨b_5, hb_5, hR⟩ := yf_b hR
  have K_5 : X p l e (yR 7 0 0) s m args below meth c D A H0 4 Q [[(x, .inr (8, [.ref xj, .ref xw, .ref xz, .ref xo, .ref xy, .ref xt]))], [(xj, .inr (3, [.ref xja, .ref xjb, .int xjr, .int xjk, .int xjc, .int xjg, .int xjs]))], [(xja, .inr (6, [.ref xjan]))], [(xjan, .inl (cy 1, 81, .inl xjaf))], [(xjb, .inr (6, [.ref xjbn]))], [(xjbn, .inl (cy 1, 81, .inl xjbf))], [(xw, .inr (2, [.ref xwu, .ref xwm, .int xwb, .int xwk]))], [(xwu, .inr (6, [.ref xwun]))], [(xwun, .inl (cy 1, 81, .inl xwuf))], [(xwm, .inr (6, [.ref xwmn]))], [(xwmn, .inl (cy 1, 81, .inl xwmf))], [(xz, .inr (5, [.ref xzv, .int xzr, .int xzc, .int xzs]))], [(xzv, .inr (6, [.ref xzvn]))], [(xzvn, .inl (cy 1, 81, .inl xzvf))], [(xo, .inr (7, [.ref xoj, .ref xoy, .int xosk, .int xoti, .int xofr, .int xofc, .int xobt, .int xobl, .int xobe, .int xose, .int xotk]))], [(xoy, .inr (4, [.int xoy0, .int xoy1, .int xoy2, .int xoy3, .int xoy4, .int xoy5, .int xoy6, .int xoy7, .int xoy8, .int xoy9]))], [(xy, .inr (4, [.int x_1.1, .int x_1.2.1, .int x_1.2.2.1, .int x_1.2.2.2.1, .int x_1.2.2.2.2.1, .int x_1.2.2.2.2.2.1, .int x_1.2.2.2.2.2.2.1, .int x_1.2.2.2.2.2.2.2.1, .int x_1.2.2.2.2.2.2.2.2.1, .int x_1.2.2.2.2.2.2.2.2.2.1]))], [(xt, .inr (4, [.int x_1.2.2.2.2.2.2.2.2.2.2.1, .int x_1.2.2.2.2.2.2.2.2.2.2.2.1, .int x_1.2.2.2.2.2.2.2.2.2.2.2.2.1, .int x_1.2.2.2.2.2.2.2.2.2.2.2.2.2.1, .int x_1.2.2.2.2.2.2.2.2.2.2.2.2.2.2.1, .int x_1.2.2.2.2.2.2.2.2.2.2.2.2.2.2.2.1, .int x_1.2.2.2.2.2.2.2.2.2.2.2.2.2.2.2.2.1, .int x_1.2.2.2.2.2.2.2.2.2.2.2.2.2.2.2.2.2.1, .int x_1.2.2.2.2.2.2.2.2.2.2.2.2.2.2.2.2.2.2.1, .int x_1.2.2.2.2.2.2.2.2.2.2.2.2.2.2.2.2.2.2.2]))]] 0 0 [(0, .ref x), (1, .long b_5.1)] 32 [] := by
    refine xr_aload_n (n := 33) (j := 0) C dd_X6_digest_1.2.1 rfl rfl ?_
    refine xr_lload_n (n := 34) (j := 1) C dd_X6_digest_1.2.2.1 rfl rfl ?_
    obtain ⟨x_6, hx_6, hR⟩ := yf_b hR
    refine xr_callVp (n := 37) (As := [.long b_5.1]) (rest := []) C (kX6_mixCells l D cy (x := x) (xj := xj) (xw := xw) (xz := xz) (xo := xo) (xy := xy) (xt := xt) (xwu := xwu) (xwm := xwm) (xwb := xwb) (xwk := xwk) (xwun := xwun) (xwuf := xwuf) (xwmn := xwmn) (xwmf := xwmf) (xoj := xoj) (xoy := xoy) (xosk := xosk) (xoti := xoti) (xofr := xofr) (xofc := xofc) (xobt := xobt) (xobl := xobl) (xobe := xobe) (xose := xose) (xotk := xotk) (xoy0 := xoy0) (xoy1 := xoy1) (xoy2 := xoy2) (xoy3 := xoy3) (xoy4 := xoy4) (xoy5 := xoy5) (xoy6 := xoy6) (xoy7 := xoy7) (xoy8 := xoy8) (xoy9 := xoy9) (i1 := b_5.1) hx_6) mX6_mixCells u_473 u_475 u_14 0 rfl rfl 18 [0, 6, 7, 8, 9, 10, 14, 15] [1, 2, 3, 4, 5, 11, 12, 13, 16, 17] rfl (by decide +kernel) rfl rfl rfl rfl (Nat.le_of_ble_eq_true rfl) (Nat.le_of_ble_eq_true rfl) (Nat.le_of_ble_eq_true rfl) (Nat.le_of_ble_eq_true rfl) (Nat.le_of_ble_eq_true rfl) dd_X6_digest_1.2.2.2.1 rfl (fun _ _ hp => hp.2) (fun v_7 hp_9 => ?_)
    obtain ⟨rfl, -⟩ := hp_9
    refine xr_st (st' := [.long x_6]) rfl ?_
    refine xr_lstore_n (n := 38) C [(1, .long x_6), (0, .ref x)] dd_X6_digest_1.2.2.2.2.1 (by decide) rfl rfl ?_
    refine xr_aload_n (n := 39) (j := 1) C dd_X6_digest_1.2.2.2.2.2.1 rfl rfl ?_
    refine xr_lload_n (n := 40) (j := 0) C dd_X6_digest_1.2.2.2.2.2.2.1 rfl rfl ?_
    obtain ⟨x_10, hx_10, hR⟩ := yf_b hR
    refine xr_callVp (n := 43) (As := [.long x_6]) (rest := []) C (kX6_mixResults l D cy (x := x) (xj := xj) (xw := xw) (xz := xz) (xo := xo) (xy := xy) (xt := xt) (xzv := xzv) (xzr := xzr) (xzc := xzc) (xzs := xzs) (xzvn := xzvn) (xzvf := xzvf) (i1 := x_6) hx_10) mX6_mixResults u_510 u_512 u_16 0 rfl rfl 18 [0, 11, 12, 13] [1, 2, 3, 4, 5, 6, 7, 8, 9, 10, 14, 15, 16, 17] rfl (by decide +kernel) rfl rfl rfl rfl (Nat.le_of_ble_eq_true rfl) (Nat.le_of_ble_eq_true rfl) (Nat.le_of_ble_eq_true rfl) (Nat.le_of_ble_eq_true rfl) (Nat.le_of_ble_eq_true rfl) dd_X6_digest_1.2.2.2.2.2.2.2.1 rfl (fun _ _ hp => hp.2) (fun v_11 hp_13 => ?_)
    obtain ⟨rfl, -⟩ := hp_13
    refine xr_st (st' := [.long x_10]) rfl ?_
    refine xr_lstore_n (n := 44) C [(1, .long x_10), (0, .ref x)] dd_X6_digest_1.2.2.2.2.2.2.2.2.1 (by decide) rfl rfl ?_
    refine xr_aload_n (n := 45) (j := 1) C dd_X6_digest_1.2.2.2.2.2.2.2.2.2.1 rfl rfl ?_
    refine xr_lload_n (n := 46) (j := 0) C dd_X6_digest_1.2.2.2.2.2.2.2.2.2.2.1 rfl rfl ?_
    obtain ⟨x_14, hx_14, hR⟩ := yf_b hR
    refine xr_callVp (n := 49) (As := [.long x_10]) (rest := []) C (kX6_mixPlain l D cy (x := x) (xj := xj) (xw := xw) (xz := xz) (xo := xo) (xy := xy) (xt := xt) (xja := xja) (xjb := xjb) (xjr := xjr) (xjk := xjk) (xjc := xjc) (xjg := xjg) (xjs := xjs) (xjan := xjan) (xjaf := xjaf) (xjbn := xjbn) (xjbf := xjbf) (i1 := x_10) hx_14) mX6_mixPlain u_514 u_516 u_17 0 rfl rfl 18 [0, 1, 2, 3, 4, 5] [6, 7, 8, 9, 10, 11, 12, 13, 14, 15, 16, 17] rfl (by decide +kernel) rfl rfl rfl rfl (Nat.le_of_ble_eq_true rfl) (Nat.le_of_ble_eq_true rfl) (Nat.le_of_ble_eq_true rfl) (Nat.le_of_ble_eq_true rfl) (Nat.le_of_ble_eq_true rfl) dd_X6_digest_1.2.2.2.2.2.2.2.2.2.2.2.1 rfl (fun _ _ hp => hp.2) (fun v_15 hp_17 => ?_)
    obtain ⟨rfl, -⟩ := hp_17
    refine xr_st (st' := [.long x_14]) rfl ?_
    refine xr_lstore_n (n := 50) C [(1, .long x_14), (0, .ref x)] dd_X6_digest_1.2.2.2.2.2.2.2.2.2.2.2.2.1 (by decide) rfl rfl ?_
    refine xr_iconst (n := 51) (v := 0) C dd_X6_digest_1.2.2.2.2.2.2.2.2.2.2.2.2.2.1 rfl rfl ?_
    refine xr_istore_n (n := 52) C [(3, .int 0), (1, .long x_14), (0, .ref x)] dd_X6_digest_1.2.2.2.2.2.2.2.2.2.2.2.2.2.2.1 (by decide) rfl rfl ?_
    refine xr_lv (lv' := [(0, .ref x), (1, .long x_14), (3, .int 0)]) [2, 1, 0] rfl ?_
    obtain ⟨b_18, hb_18, hR⟩ := yf_b hR
    have K_18 : X p l e (yR 7 0 0) s m args below meth c D A H0 4 Q [[(x, .inr (8, [.ref xj, .ref xw, .ref xz, .ref xo, .ref xy, .ref xt]))], [(xj, .inr (3, [.ref xja, .ref xjb, .int xjr, .int xjk, .int xjc, .int xjg, .int xjs]))], [(xja, .inr (6, [.ref xjan]))], [(xjan, .inl (cy 1, 81, .inl xjaf))], [(xjb, .inr (6, [.ref xjbn]))], [(xjbn, .inl (cy 1, 81, .inl xjbf))], [(xw, .inr (2, [.ref xwu, .ref xwm, .int xwb, .int xwk]))], [(xwu, .inr (6, [.ref xwun]))], [(xwun, .inl (cy 1, 81, .inl xwuf))], [(xwm, .inr (6, [.ref xwmn]))], [(xwmn, .inl (cy 1, 81, .inl xwmf))], [(xz, .inr (5, [.ref xzv, .int xzr, .int xzc, .int xzs]))], [(xzv, .inr (6, [.ref xzvn]))], [(xzvn, .inl (cy 1, 81, .inl xzvf))], [(xo, .inr (7, [.ref xoj, .ref xoy, .int xosk, .int xoti, .int xofr, .int xofc, .int xobt, .int xobl, .int xobe, .int xose, .int xotk]))], [(xoy, .inr (4, [.int xoy0, .int xoy1, .int xoy2, .int xoy3, .int xoy4, .int xoy5, .int xoy6, .int xoy7, .int xoy8, .int xoy9]))], [(xy, .inr (4, [.int x_1.1, .int x_1.2.1, .int x_1.2.2.1, .int x_1.2.2.2.1, .int x_1.2.2.2.2.1, .int x_1.2.2.2.2.2.1, .int x_1.2.2.2.2.2.2.1, .int x_1.2.2.2.2.2.2.2.1, .int x_1.2.2.2.2.2.2.2.2.1, .int x_1.2.2.2.2.2.2.2.2.2.1]))], [(xt, .inr (4, [.int x_1.2.2.2.2.2.2.2.2.2.2.1, .int x_1.2.2.2.2.2.2.2.2.2.2.2.1, .int x_1.2.2.2.2.2.2.2.2.2.2.2.2.1, .int x_1.2.2.2.2.2.2.2.2.2.2.2.2.2.1, .int x_1.2.2.2.2.2.2.2.2.2.2.2.2.2.2.1, .int x_1.2.2.2.2.2.2.2.2.2.2.2.2.2.2.2.1, .int x_1.2.2.2.2.2.2.2.2.2.2.2.2.2.2.2.2.1, .int x_1.2.2.2.2.2.2.2.2.2.2.2.2.2.2.2.2.2.1, .int x_1.2.2.2.2.2.2.2.2.2.2.2.2.2.2.2.2.2.2.1, .int x_1.2.2.2.2.2.2.2.2.2.2.2.2.2.2.2.2.2.2.2]))]] 0 0 [(0, .ref x), (1, .long b_18.1)] 73 [] := by
      refine xr_lload_n (n := 74) (j := 1) C dd_X6_digest_2.2.2.2.2.2.2.2.2.2.2.1 rfl rfl ?_
      refine xr_aload_n (n := 75) (j := 0) C dd_X6_digest_2.2.2.2.2.2.2.2.2.2.2.2.1 rfl rfl ?_
      obtain ⟨x_19, hx_19, hR⟩ := yf_b hR
      refine xr_callVp (n := 78) (As := []) (rest := [.long b_18.1]) C (kX6_savedBeats l D cy (x := x) (xj := xj) (xw := xw) (xz := xz) (xo := xo) (xy := xy) (xt := xt) (xja := xja) (xjb := xjb) (xjr := xjr) (xjk := xjk) (xjc := xjc) (xjg := xjg) (xjs := xjs) (xy0 := x_1.1) (xy1 := x_1.2.1) (xy2 := x_1.2.2.1) (xy3 := x_1.2.2.2.1) (xy4 := x_1.2.2.2.2.1) (xy5 := x_1.2.2.2.2.2.1) (xy6 := x_1.2.2.2.2.2.2.1) (xy7 := x_1.2.2.2.2.2.2.2.1) (xy8 := x_1.2.2.2.2.2.2.2.2.1) (xy9 := x_1.2.2.2.2.2.2.2.2.2.1) hx_19) mX6_savedBeats u_386 u_388 u_5 0 rfl rfl 18 [0, 1, 16] [2, 3, 4, 5, 6, 7, 8, 9, 10, 11, 12, 13, 14, 15, 17] rfl (by decide +kernel) rfl rfl rfl rfl (Nat.le_of_ble_eq_true rfl) (Nat.le_of_ble_eq_true rfl) (Nat.le_of_ble_eq_true rfl) (Nat.le_of_ble_eq_true rfl) (Nat.le_of_ble_eq_true rfl) dd_X6_digest_2.2.2.2.2.2.2.2.2.2.2.2.2.1 rfl (fun _ _ hp => hp.2) (fun v_20 hp_22 => ?_)
      obtain ⟨rfl, -⟩ := hp_22
      refine xr_st (st' := [.int x_19, .long b_18.1]) rfl ?_
      obtain ⟨x_23, hx_23, hR⟩ := yf_b hR
      refine xr_callSp (n := 81) (As := [.long b_18.1, .int x_19]) (rest := []) C (kX6_mix l D cy (i1 := b_18.1) (i2 := x_19) hx_23) mX6_mix u_469 u_470 18 [] [0, 1, 2, 3, 4, 5, 6, 7, 8, 9, 10, 11, 12, 13, 14, 15, 16, 17] rfl (by decide +kernel) rfl rfl rfl rfl (Nat.le_of_ble_eq_true rfl) (Nat.le_of_ble_eq_true rfl) (Nat.le_of_ble_eq_true rfl) (Nat.le_of_ble_eq_true rfl) (Nat.le_of_ble_eq_true rfl) dd_X6_digest_2.2.2.2.2.2.2.2.2.2.2.2.2.2.1 rfl (fun _ _ hp => hp.2) (fun v_24 hp_26 => ?_)
      obtain ⟨rfl, -⟩ := hp_26
      refine xr_st (st' := [.long x_23]) rfl ?_
      refine xr_lstore_n (n := 82) C [(1, .long x_23), (0, .ref x)] dd_X6_digest_2.2.2.2.2.2.2.2.2.2.2.2.2.2.2.1 (by decide) rfl rfl ?_
      refine xr_lload_n (n := 83) (j := 0) C dd_X6_digest_2.2.2.2.2.2.2.2.2.2.2.2.2.2.2.2.1 rfl rfl ?_
      refine xr_aload_n (n := 84) (j := 1) C dd_X6_digest_3.1 rfl rfl ?_
      obtain ⟨x_27, hx_27, hR⟩ := yf_b hR
      refine xr_callV (n := 87) (As := []) (rest := [.long x_23]) C (kX6_isAllSound l D cy (x := x) (xj := xj) (xw := xw) (xz := xz) (xo := xo) (xy := xy) (xt := xt) (xwu := xwu) (xwm := xwm) (xwb := xwb) (xwk := xwk) (xwun := xwun) (xwuf := xwuf) (xoj := xoj) (xoy := xoy) (xosk := xosk) (xoti := xoti) (xofr := xofr) (xofc := xofc) (xobt := xobt) (xobl := xobl) (xobe := xobe) (xose := xose) (xotk := xotk) (xoy0 := xoy0) (xoy1 := xoy1) (xoy2 := xoy2) (xoy3 := xoy3) (xoy4 := xoy4) (xoy5 := xoy5) (xoy6 := xoy6) (xoy7 := xoy7) (xoy8 := xoy8) (xoy9 := xoy9) (xy0 := x_1.1) (xy1 := x_1.2.1) (xy2 := x_1.2.2.1) (xy3 := x_1.2.2.2.1) (xy4 := x_1.2.2.2.2.1) (xy5 := x_1.2.2.2.2.2.1) (xy6 := x_1.2.2.2.2.2.2.1) (xy7 := x_1.2.2.2.2.2.2.2.1) (xy8 := x_1.2.2.2.2.2.2.2.2.1) (xy9 := x_1.2.2.2.2.2.2.2.2.2.1) (xt0 := x_1.2.2.2.2.2.2.2.2.2.2.1) (xt1 := x_1.2.2.2.2.2.2.2.2.2.2.2.1) (xt2 := x_1.2.2.2.2.2.2.2.2.2.2.2.2.1) (xt3 := x_1.2.2.2.2.2.2.2.2.2.2.2.2.2.1) (xt4 := x_1.2.2.2.2.2.2.2.2.2.2.2.2.2.2.1) (xt5 := x_1.2.2.2.2.2.2.2.2.2.2.2.2.2.2.2.1) (xt6 := x_1.2.2.2.2.2.2.2.2.2.2.2.2.2.2.2.2.1) (xt7 := x_1.2.2.2.2.2.2.2.2.2.2.2.2.2.2.2.2.2.1) (xt8 := x_1.2.2.2.2.2.2.2.2.2.2.2.2.2.2.2.2.2.2.1) (xt9 := x_1.2.2.2.2.2.2.2.2.2.2.2.2.2.2.2.2.2.2.2) hx_27) mX6_isAllSound u_395 u_397 u_6 0 rfl rfl 18 [0, 6, 7, 8, 14, 15, 16, 17] [1, 2, 3, 4, 5, 9, 10, 11, 12, 13] rfl (by decide +kernel) rfl rfl rfl rfl (Nat.le_of_ble_eq_true rfl) (Nat.le_of_ble_eq_true rfl) (Nat.le_of_ble_eq_true rfl) (Nat.le_of_ble_eq_true rfl) (Nat.le_of_ble_eq_true rfl) dd_X6_digest_3.2.1 rfl (fun v_28 u_29 hp_30 => ?_)
      obtain ⟨rfl, rfl⟩ := hp_30
      refine xr_perm C 18 [0, 8, 9, 10, 11, 12, 1, 2, 3, 13, 14, 15, 16, 17, 4, 5, 6, 7] [] [[(x, .inr (8, [.ref xj, .ref xw, .ref xz, .ref xo, .ref xy, .ref xt]))], [(xj, .inr (3, [.ref xja, .ref xjb, .int xjr, .int xjk, .int xjc, .int xjg, .int xjs]))], [(xja, .inr (6, [.ref xjan]))], [(xjan, .inl (cy 1, 81, .inl xjaf))], [(xjb, .inr (6, [.ref xjbn]))], [(xjbn, .inl (cy 1, 81, .inl xjbf))], [(xw, .inr (2, [.ref xwu, .ref xwm, .int xwb, .int xwk]))], [(xwu, .inr (6, [.ref xwun]))], [(xwun, .inl (cy 1, 81, .inl xwuf))], [(xwm, .inr (6, [.ref xwmn]))], [(xwmn, .inl (cy 1, 81, .inl xwmf))], [(xz, .inr (5, [.ref xzv, .int xzr, .int xzc, .int xzs]))], [(xzv, .inr (6, [.ref xzvn]))], [(xzvn, .inl (cy 1, 81, .inl xzvf))], [(xo, .inr (7, [.ref xoj, .ref xoy, .int xosk, .int xoti, .int xofr, .int xofc, .int xobt, .int xobl, .int xobe, .int xose, .int xotk]))], [(xoy, .inr (4, [.int xoy0, .int xoy1, .int xoy2, .int xoy3, .int xoy4, .int xoy5, .int xoy6, .int xoy7, .int xoy8, .int xoy9]))], [(xy, .inr (4, [.int x_1.1, .int x_1.2.1, .int x_1.2.2.1, .int x_1.2.2.2.1, .int x_1.2.2.2.2.1, .int x_1.2.2.2.2.2.1, .int x_1.2.2.2.2.2.2.1, .int x_1.2.2.2.2.2.2.2.1, .int x_1.2.2.2.2.2.2.2.2.1, .int x_1.2.2.2.2.2.2.2.2.2.1]))], [(xt, .inr (4, [.int x_1.2.2.2.2.2.2.2.2.2.2.1, .int x_1.2.2.2.2.2.2.2.2.2.2.2.1, .int x_1.2.2.2.2.2.2.2.2.2.2.2.2.1, .int x_27.2.1, .int x_27.2.2.1, .int x_27.2.2.2.1, .int x_27.2.2.2.2.1, .int x_27.2.2.2.2.2.1, .int x_27.2.2.2.2.2.2.1, .int x_27.2.2.2.2.2.2.2]))]] rfl (by decide +kernel) rfl ?_
      refine xr_st (st' := [.int x_27.1, .long x_23]) rfl ?_
      refine xr_if_eq (tgt := 94) (n := 90) C dd_X6_digest_3.2.2.1 rfl rfl (fun c_31 => ?_) (fun c_31 => ?_)
      · replace hR := yf_t c_31 hR
        refine xr_iconst (n := 95) (v := 0) C dd_X6_digest_3.2.2.2.2.2.1 rfl rfl ?_
        obtain ⟨x_32, hx_32, hR⟩ := yf_b hR
        refine xr_callSp (n := 98) (As := [.long x_23, .int 0]) (rest := []) C (kX6_mix l D cy (i1 := x_23) (i2 := 0) hx_32) mX6_mix u_469 u_470 18 [] [0, 1, 2, 3, 4, 5, 6, 7, 8, 9, 10, 11, 12, 13, 14, 15, 16, 17] rfl (by decide +kernel) rfl rfl rfl rfl (Nat.le_of_ble_eq_true rfl) (Nat.le_of_ble_eq_true rfl) (Nat.le_of_ble_eq_true rfl) (Nat.le_of_ble_eq_true rfl) (Nat.le_of_ble_eq_true rfl) dd_X6_digest_3.2.2.2.2.2.2.1 rfl (fun _ _ hp => hp.2) (fun v_33 hp_35 => ?_)
        obtain ⟨rfl, -⟩ := hp_35
        refine xr_st (st' := [.long x_32]) rfl ?_
        obtain rfl := Option.some.inj hR
        exact ret x_32 ⟨rfl, rfl⟩ (Nat.le_of_ble_eq_true rfl) (Nat.le_of_ble_eq_true rfl) dd_X6_digest_3.2.2.2.2.2.2.2.1
      · replace hR := yf_f c_31 hR
        refine xr_iconst (n := 91) (v := 1) C dd_X6_digest_3.2.2.2.1 rfl rfl ?_
        refine xr_goto (tgt := 95) C dd_X6_digest_3.2.2.2.2.1 rfl ?_
        obtain ⟨x_36, hx_36, hR⟩ := yf_b hR
        refine xr_callSp (n := 98) (As := [.long x_23, .int 1]) (rest := []) C (kX6_mix l D cy (i1 := x_23) (i2 := 1) hx_36) mX6_mix u_469 u_470 18 [] [0, 1, 2, 3, 4, 5, 6, 7, 8, 9, 10, 11, 12, 13, 14, 15, 16, 17] rfl (by decide +kernel) rfl rfl rfl rfl (Nat.le_of_ble_eq_true rfl) (Nat.le_of_ble_eq_true rfl) (Nat.le_of_ble_eq_true rfl) (Nat.le_of_ble_eq_true rfl) (Nat.le_of_ble_eq_true rfl) dd_X6_digest_3.2.2.2.2.2.2.1 rfl (fun _ _ hp => hp.2) (fun v_37 hp_39 => ?_)
        obtain ⟨rfl, -⟩ := hp_39
        refine xr_st (st' := [.long x_36]) rfl ?_
        obtain rfl := Option.some.inj hR
        exact ret x_36 ⟨rfl, rfl⟩ (Nat.le_of_ble_eq_true rfl) (Nat.le_of_ble_eq_true rfl) dd_X6_digest_3.2.2.2.2.2.2.2.1
    refine y_loop (P := fun (s_18 : Int64 × Int32) => X p l e (yR 7 0 0) s m args below meth c D A H0 4 Q [[(x, .inr (8, [.ref xj, .ref xw, .ref xz, .ref xo, .ref xy, .ref xt]))], [(xj, .inr (3, [.ref xja, .ref xjb, .int xjr, .int xjk, .int xjc, .int xjg, .int xjs]))], [(xja, .inr (6, [.ref xjan]))], [(xjan, .inl (cy 1, 81, .inl xjaf))], [(xjb, .inr (6, [.ref xjbn]))], [(xjbn, .inl (cy 1, 81, .inl xjbf))], [(xw, .inr (2, [.ref xwu, .ref xwm, .int xwb, .int xwk]))], [(xwu, .inr (6, [.ref xwun]))], [(xwun, .inl (cy 1, 81, .inl xwuf))], [(xwm, .inr (6, [.ref xwmn]))], [(xwmn, .inl (cy 1, 81, .inl xwmf))], [(xz, .inr (5, [.ref xzv, .int xzr, .int xzc, .int xzs]))], [(xzv, .inr (6, [.ref xzvn]))], [(xzvn, .inl (cy 1, 81, .inl xzvf))], [(xo, .inr (7, [.ref xoj, .ref xoy, .int xosk, .int xoti, .int xofr, .int xofc, .int xobt, .int xobl, .int xobe, .int xose, .int xotk]))], [(xoy, .inr (4, [.int xoy0, .int xoy1, .int xoy2, .int xoy3, .int xoy4, .int xoy5, .int xoy6, .int xoy7, .int xoy8, .int xoy9]))], [(xy, .inr (4, [.int x_1.1, .int x_1.2.1, .int x_1.2.2.1, .int x_1.2.2.2.1, .int x_1.2.2.2.2.1, .int x_1.2.2.2.2.2.1, .int x_1.2.2.2.2.2.2.1, .int x_1.2.2.2.2.2.2.2.1, .int x_1.2.2.2.2.2.2.2.2.1, .int x_1.2.2.2.2.2.2.2.2.2.1]))], [(xt, .inr (4, [.int x_1.2.2.2.2.2.2.2.2.2.2.1, .int x_1.2.2.2.2.2.2.2.2.2.2.2.1, .int x_1.2.2.2.2.2.2.2.2.2.2.2.2.1, .int x_1.2.2.2.2.2.2.2.2.2.2.2.2.2.1, .int x_1.2.2.2.2.2.2.2.2.2.2.2.2.2.2.1, .int x_1.2.2.2.2.2.2.2.2.2.2.2.2.2.2.2.1, .int x_1.2.2.2.2.2.2.2.2.2.2.2.2.2.2.2.2.1, .int x_1.2.2.2.2.2.2.2.2.2.2.2.2.2.2.2.2.2.1, .int x_1.2.2.2.2.2.2.2.2.2.2.2.2.2.2.2.2.2.2.1, .int x_1.2.2.2.2.2.2.2.2.2.2.2.2.2.2.2.2.2.2.2]))]] 0 0 [(0, .ref x), (1, .long s_18.1), (3, .int s_18.2)] 52 []) ?_ _ (x_14, 0) hb_18
    intro s_18 o_18 ho_18 hk_18 hx_18
    refine xr_iload_n (n := 53) (j := 2) C dd_X6_digest_1.2.2.2.2.2.2.2.2.2.2.2.2.2.2.2.1 rfl rfl ?_
    refine xr_iconst (n := 54) (v := 4) C dd_X6_digest_2.1 rfl rfl ?_
    refine xr_icmp_gt (tgt := 73) (n := 57) C dd_X6_digest_2.2.1 rfl rfl (fun c_40 => ?_) (fun c_40 => ?_)
    · replace ho_18 := yf_t c_40 ho_18
      refine xr_lv (lv' := [(0, .ref x), (1, .long s_18.1)]) [0, 1] rfl ?_
      have e_41 := hx_18 _ (Option.some.inj ho_18).symm
      subst e_41
      exact K_18
    · replace ho_18 := yf_f c_40 ho_18
      refine xr_lload_n (n := 58) (j := 1) C dd_X6_digest_2.2.2.1 rfl rfl ?_
      refine xr_aload_n (n := 59) (j := 0) C dd_X6_digest_2.2.2.2.1 rfl rfl ?_
      refine xr_iload_n (n := 60) (j := 2) C dd_X6_digest_2.2.2.2.2.1 rfl rfl ?_
      obtain ⟨x_42, hx_42, ho_18⟩ := yf_b ho_18
      refine xr_callVp (n := 63) (As := [.int s_18.2]) (rest := [.long s_18.1]) C (kX6_bestNumber l D cy (x := x) (xj := xj) (xw := xw) (xz := xz) (xo := xo) (xy := xy) (xt := xt) (xy0 := x_1.1) (xy1 := x_1.2.1) (xy2 := x_1.2.2.1) (xy3 := x_1.2.2.2.1) (xy4 := x_1.2.2.2.2.1) (xy5 := x_1.2.2.2.2.2.1) (xy6 := x_1.2.2.2.2.2.2.1) (xy7 := x_1.2.2.2.2.2.2.2.1) (xy8 := x_1.2.2.2.2.2.2.2.2.1) (xy9 := x_1.2.2.2.2.2.2.2.2.2.1) (i1 := s_18.2) hx_42) mX6_bestNumber u_542 u_544 u_18 0 rfl rfl 18 [0, 16] [1, 2, 3, 4, 5, 6, 7, 8, 9, 10, 11, 12, 13, 14, 15, 17] rfl (by decide +kernel) rfl rfl rfl rfl (Nat.le_of_ble_eq_true rfl) (Nat.le_of_ble_eq_true rfl) (Nat.le_of_ble_eq_true rfl) (Nat.le_of_ble_eq_true rfl) (Nat.le_of_ble_eq_true rfl) dd_X6_digest_2.2.2.2.2.2.1 rfl (fun _ _ hp => hp.2) (fun v_43 hp_45 => ?_)
      obtain ⟨rfl, -⟩ := hp_45
      refine xr_st (st' := [.int x_42, .long s_18.1]) rfl ?_
      obtain ⟨x_46, hx_46, ho_18⟩ := yf_b ho_18
      refine xr_callSp (n := 66) (As := [.long s_18.1, .int x_42]) (rest := []) C (kX6_mix l D cy (i1 := s_18.1) (i2 := x_42) hx_46) mX6_mix u_469 u_470 18 [] [0, 1, 2, 3, 4, 5, 6, 7, 8, 9, 10, 11, 12, 13, 14, 15, 16, 17] rfl (by decide +kernel) rfl rfl rfl rfl (Nat.le_of_ble_eq_true rfl) (Nat.le_of_ble_eq_true rfl) (Nat.le_of_ble_eq_true rfl) (Nat.le_of_ble_eq_true rfl) (Nat.le_of_ble_eq_true rfl) dd_X6_digest_2.2.2.2.2.2.2.1 rfl (fun _ _ hp => hp.2) (fun v_47 hp_49 => ?_)
      obtain ⟨rfl, -⟩ := hp_49
      refine xr_st (st' := [.long x_46]) rfl ?_
      refine xr_lstore_n (n := 67) C [(1, .long x_46), (0, .ref x), (3, .int s_18.2)] dd_X6_digest_2.2.2.2.2.2.2.2.1 (by decide) rfl rfl ?_
      refine xr_iinc (j := 2) (v := s_18.2 + 1) (n := 70) C [(3, .int (s_18.2 + 1)), (1, .long x_46), (0, .ref x)] dd_X6_digest_2.2.2.2.2.2.2.2.2.1 rfl rfl (by decide) rfl rfl ?_
      refine xr_goto (tgt := 52) C dd_X6_digest_2.2.2.2.2.2.2.2.2.2.1 rfl ?_
      refine xr_lv (lv' := [(0, .ref x), (1, .long x_46), (3, .int (s_18.2 + 1))]) [2, 1, 0] rfl ?_
      exact hk_18 (x_46, s_18.2 + 1) (Option.some.inj ho_18).symm
  refine y_loop (P := fun (s_5 : Int64 × Int32) => X p l e (yR 7 0 0) s m args below meth c D A H0 4 Q [[(x, .inr (8, [.ref xj, .ref xw, .ref xz, .ref xo, .ref xy, .ref xt]))], [(xj, .inr (3, [.ref xja, .ref xjb, .int xjr, .int xjk, .int xjc, .int xjg, .int xjs]))], [(xja, .inr (6, [.ref xjan]))], [(xjan, .inl (cy 1, 81, .inl xjaf))], [(xjb, .inr (6, [.ref xjbn]))], [(xjbn, .inl (cy 1, 81, .inl xjbf))], [(xw, .inr (2, [.ref xwu, .ref xwm, .int xwb, .int xwk]))], [(xwu, .inr (6, [.ref xwun]))], [(xwun, .inl (cy 1, 81, .inl xwuf))], [(xwm, .inr (6, [.ref xwmn]))], [(xwmn, .inl (cy 1, 81, .inl xwmf))], [(xz, .inr (5, [.ref xzv, .int xzr, .int xzc, .int xzs]))], [(xzv, .inr (6, [.ref xzvn]))], [(xzvn, .inl (cy 1, 81, .inl xzvf))], [(xo, .inr (7, [.ref xoj, .ref xoy, .int xosk, .int xoti, .int xofr, .int xofc, .int xobt, .int xobl, .int xobe, .int xose, .int xotk]))], [(xoy, .inr (4, [.int xoy0, .int xoy1, .int xoy2, .int xoy3, .int xoy4, .int xoy5, .int xoy6, .int xoy7, .int xoy8, .int xoy9]))], [(xy, .inr (4, [.int x_1.1, .int x_1.2.1, .int x_1.2.2.1, .int x_1.2.2.2.1, .int x_1.2.2.2.2.1, .int x_1.2.2.2.2.2.1, .int x_1.2.2.2.2.2.2.1, .int x_1.2.2.2.2.2.2.2.1, .int x_1.2.2.2.2.2.2.2.2.1, .int x_1.2.2.2.2.2.2.2.2.2.1]))], [(xt, .inr (4, [.int x_1.2.2.2.2.2.2.2.2.2.2.1, .int x_1.2.2.2.2.2.2.2.2.2.2.2.1, .int x_1.2.2.2.2.2.2.2.2.2.2.2.2.1, .int x_1.2.2.2.2.2.2.2.2.2.2.2.2.2.1, .int x_1.2.2.2.2.2.2.2.2.2.2.2.2.2.2.1, .int x_1.2.2.2.2.2.2.2.2.2.2.2.2.2.2.2.1, .int x_1.2.2.2.2.2.2.2.2.2.2.2.2.2.2.2.2.1, .int x_1.2.2.2.2.2.2.2.2.2.2.2.2.2.2.2.2.2.1, .int x_1.2.2.2.2.2.2.2.2.2.2.2.2.2.2.2.2.2.2.1, .int x_1.2.2.2.2.2.2.2.2.2.2.2.2.2.2.2.2.2.2.2]))]] 0 0 [(0, .ref x), (1, .long s_5.1), (3, .int s_5.2)] 10 []) ?_ _ (5659, 0) hb_5
  intro s_5 o_5 ho_5 hk_5 hx_5
  refine xr_iload_n (n := 11) (j := 2) C dd_X6_digest_0.2.2.2.2.2.2.1 rfl rfl ?_
  refine xr_bipush (n := 13) (v := 15) C dd_X6_digest_0.2.2.2.2.2.2.2.1 rfl rfl ?_
  refine xr_icmp_gt (tgt := 32) (n := 16) C dd_X6_digest_0.2.2.2.2.2.2.2.2.1 rfl rfl (fun c_50 => ?_) (fun c_50 => ?_)
  · replace ho_5 := yf_t c_50 ho_5
    refine xr_lv (lv' := [(0, .ref x), (1, .long s_5.1)]) [0, 1] rfl ?_
    have e_51 := hx_5 _ (Option.some.inj ho_5).symm
    subst e_51
    exact K_5
  · replace ho_5 := yf_f c_50 ho_5
    refine xr_lload_n (n := 17) (j := 1) C dd_X6_digest_0.2.2.2.2.2.2.2.2.2.1 rfl rfl ?_
    refine xr_aload_n (n := 18) (j := 0) C dd_X6_digest_0.2.2.2.2.2.2.2.2.2.2.1 rfl rfl ?_
    refine xr_iload_n (n := 19) (j := 2) C dd_X6_digest_0.2.2.2.2.2.2.2.2.2.2.2.1 rfl rfl ?_
    obtain ⟨x_52, hx_52, ho_5⟩ := yf_b ho_5
    refine xr_callVp (n := 22) (As := [.int s_5.2]) (rest := [.long s_5.1]) C (kX6_meshNumber l D cy (x := x) (xj := xj) (xw := xw) (xz := xz) (xo := xo) (xy := xy) (xt := xt) (xja := xja) (xjb := xjb) (xjr := xjr) (xjk := xjk) (xjc := xjc) (xjg := xjg) (xjs := xjs) (xjan := xjan) (xjaf := xjaf) (xjbn := xjbn) (xjbf := xjbf) (xwu := xwu) (xwm := xwm) (xwb := xwb) (xwk := xwk) (xzv := xzv) (xzr := xzr) (xzc := xzc) (xzs := xzs) (xoj := xoj) (xoy := xoy) (xosk := xosk) (xoti := xoti) (xofr := xofr) (xofc := xofc) (xobt := xobt) (xobl := xobl) (xobe := xobe) (xose := xose) (xotk := xotk) (i1 := s_5.2) hx_52) mX6_meshNumber u_461 u_463 u_13 0 rfl rfl 18 [0, 1, 2, 3, 4, 5, 6, 11, 14] [7, 8, 9, 10, 12, 13, 15, 16, 17] rfl (by decide +kernel) rfl rfl rfl rfl (Nat.le_of_ble_eq_true rfl) (Nat.le_of_ble_eq_true rfl) (Nat.le_of_ble_eq_true rfl) (Nat.le_of_ble_eq_true rfl) (Nat.le_of_ble_eq_true rfl) dd_X6_digest_0.2.2.2.2.2.2.2.2.2.2.2.2.1 rfl (fun _ _ hp => hp.2) (fun v_53 hp_55 => ?_)
    obtain ⟨rfl, -⟩ := hp_55
    refine xr_st (st' := [.int x_52, .long s_5.1]) rfl ?_
    obtain ⟨x_56, hx_56, ho_5⟩ := yf_b ho_5
    refine xr_callSp (n := 25) (As := [.long s_5.1, .int x_52]) (rest := []) C (kX6_mix l D cy (i1 := s_5.1) (i2 := x_52) hx_56) mX6_mix u_469 u_470 18 [] [0, 1, 2, 3, 4, 5, 6, 7, 8, 9, 10, 11, 12, 13, 14, 15, 16, 17] rfl (by decide +kernel) rfl rfl rfl rfl (Nat.le_of_ble_eq_true rfl) (Nat.le_of_ble_eq_true rfl) (Nat.le_of_ble_eq_true rfl) (Nat.le_of_ble_eq_true rfl) (Nat.le_of_ble_eq_true rfl) dd_X6_digest_0.2.2.2.2.2.2.2.2.2.2.2.2.2.1 rfl (fun _ _ hp => hp.2) (fun v_57 hp_59 => ?_)
    obtain ⟨rfl, -⟩ := hp_59
    refine xr_st (st' := [.long x_56]) rfl ?_
    refine xr_lstore_n (n := 26) C [(1, .long x_56), (0, .ref x), (3, .int s_5.2)] dd_X6_digest_0.2.2.2.2.2.2.2.2.2.2.2.2.2.2.1 (by decide) rfl rfl ?_
    refine xr_iinc (j := 2) (v := s_5.2 + 1) (n := 29) C [(3, .int (s_5.2 + 1)), (1, .long x_56), (0, .ref x)] dd_X6_digest_0.2.2.2.2.2.2.2.2.2.2.2.2.2.2.2.1 rfl rfl (by decide) rfl rfl ?_
    refine xr_goto (tgt := 10) C dd_X6_digest_1.1 rfl ?_
    refine xr_lv (lv' := [(0, .ref x), (1, .long x_56), (3, .int (s_5.2 + 1))]) [2, 1, 0] rfl ?_
    exact hk_5 (x_56, s_5.2 + 1) (Option.some.inj ho_5).symm
theorem dX4_init_7 : decode cX4_init 7 = .ok (.newarray .int, 2) := by decide +kernel
theorem dd_X4_init_0 : dk_R cX4_init [(0, .aload_n 0, 1), (1, .invokespecial 1, 3), (4, .aload_n 0, 1), (5, .bipush 81, 2), (9, .putfield 9, 3), (12, .return_, 1)] := dk_use _ _ (by decide +kernel)
def fX4_init  : Option (Unit) := some ()
abbrev hX4_init : Cond := .code yX4_init cX4_init 1 none
theorem mX4_init : yM yX4_init hX4_init 0 := ⟨u_102, u_59, by decide +kernel, by decide +kernel, by decide +kernel⟩
set_option maxHeartbeats 4000000 in
set_option maxRecDepth 100000 in
theorem kX4_init (l : Launch) (D : va_G) (cy : Nat → ClassId) (h : Nat) {res : Unit} (hR : fX4_init  = some res) : YM l D cy yX4_init hX4_init 1 1 81 [.ref h] [[(h, .inr (6, [.null]))]] (fun v u => ∃ hn : Nat, v = none ∧ u = [[(h, .inr (6, [.ref hn]))], [(hn, .inl (cy 1, 81, .inl (fun _ => 0)))]]) := by
  unfold fX4_init at hR
  refine YM.ofV (cc := cX4_init) (maxL := 1) (ret := none) (by decide +kernel) rfl (Nat.le_of_ble_eq_true rfl) [(0, .ref h)] rfl rfl (fun p e s m args below meth c A H0 Q C hnm ret => ?_)
  refine xr_aload_n (n := 1) (j := 0) C dd_X4_init_0.1 rfl rfl ?_
  refine xr_objInit (n := 4) C u_103 u_90 u_91 (Nat.le_of_ble_eq_true rfl) (Nat.le_of_ble_eq_true rfl) (Nat.le_of_ble_eq_true rfl) dd_X4_init_0.2.1 rfl ?_
  refine xr_aload_n (n := 5) (j := 0) C dd_X4_init_0.2.2.1 rfl rfl ?_
  refine xr_bipush (n := 7) (v := 81) C dd_X4_init_0.2.2.2.1 rfl rfl ?_
  refine xr_newa (n := 9) C u_108 (by decide) (N' := 81) (by decide) (by decide) (Nat.le_of_ble_eq_true rfl) (Nat.le_of_ble_eq_true rfl) dX4_init_7 rfl (fun q_1 => ?_)
  refine xr_eq (bs' := [[(h, .inr (6, [.null]))], [(q_1, .inl (cy 1, 81, .inl (fun _ => 0)))]]) rfl ?_
  refine xr_putF (n := 12) C 0 rfl rfl 0 (by decide) in_X4 tyX4 tyX4_ok nmX4 u_104 rfl rfl hnm rfl rfl rfl (Nat.le_of_ble_eq_true rfl) [[(h, .inr (6, [.ref q_1]))], [(q_1, .inl (cy 1, 81, .inl (fun _ => 0)))]] rfl rfl dd_X4_init_0.2.2.2.2.1 ?_
  obtain rfl := Option.some.inj hR
  exact ret ⟨q_1, rfl, rfl⟩ (Nat.le_of_ble_eq_true rfl) (Nat.le_of_ble_eq_true rfl) dd_X4_init_0.2.2.2.2.2.1
theorem dd_X1_init_0 : dk_R cX1_init [(0, .aload_n 0, 1), (1, .invokespecial 3, 3), (4, .aload_n 0, 1), (5, .new 9, 3), (8, .dup, 1), (9, .invokespecial 11, 3), (12, .putfield 12, 3), (15, .aload_n 0, 1), (16, .new 9, 3), (19, .dup, 1), (20, .invokespecial 11, 3), (23, .putfield 18, 3), (26, .aload_n 0, 1), (27, .iconst 2, 1), (28, .putfield 21, 3), (31, .aload_n 0, 1)] := dk_use _ _ (by decide +kernel)
theorem dd_X1_init_1 : dk_R cX1_init [(32, .iconst 2, 1), (33, .putfield 25, 3), (36, .aload_n 0, 1), (37, .iconst 2, 1), (38, .putfield 28, 3), (41, .aload_n 0, 1), (42, .iconst 0, 1), (43, .putfield 31, 3), (46, .aload_n 0, 1), (47, .iconst 0, 1), (48, .putfield 34, 3), (51, .return_, 1)] := dk_use _ _ (by decide +kernel)
def fX1_init  : Option (Unit) := ((fX4_init).bind fun x_2 => ((fX4_init).bind fun x_8 => some ()))
abbrev hX1_init : Cond := .code yX1_init cX1_init 1 none
theorem mX1_init : yM yX1_init hX1_init 0 := ⟨u_96, u_58, by decide +kernel, by decide +kernel, by decide +kernel⟩
set_option maxHeartbeats 4000000 in
set_option maxRecDepth 100000 in
theorem kX1_init (l : Launch) (D : va_G) (cy : Nat → ClassId) (j : Nat) {res : Unit} (hR : fX1_init  = some res) : YM l D cy yX1_init hX1_init 2 4 164 [.ref j] [[(j, .inr (3, [.null, .null, .int 0, .int 0, .int 0, .int 0, .int 0]))]] (fun v u => ∃ ja : Nat, ∃ jb : Nat, ∃ jan : Nat, ∃ jbn : Nat, v = none ∧ u = [[(j, .inr (3, [.ref ja, .ref jb, .int 2, .int 2, .int 2, .int 0, .int 0]))], [(ja, .inr (6, [.ref jan]))], [(jan, .inl (cy 1, 81, .inl (fun _ => 0)))], [(jb, .inr (6, [.ref jbn]))], [(jbn, .inl (cy 1, 81, .inl (fun _ => 0)))]]) := by
  unfold fX1_init at hR
  refine YM.ofV (cc := cX1_init) (maxL := 1) (ret := none) (by decide +kernel) rfl (Nat.le_of_ble_eq_true rfl) [(0, .ref j)] rfl rfl (fun p e s m args below meth c A H0 Q C hnm ret => ?_)
  refine xr_aload_n (n := 1) (j := 0) C dd_X1_init_0.1 rfl rfl ?_
  refine xr_objInit (n := 4) C u_97 u_90 u_91 (Nat.le_of_ble_eq_true rfl) (Nat.le_of_ble_eq_true rfl) (Nat.le_of_ble_eq_true rfl) dd_X1_init_0.2.1 rfl ?_
  refine xr_aload_n (n := 5) (j := 0) C dd_X1_init_0.2.2.1 rfl rfl ?_
  refine xr_new (n := 8) (ci := 6) C tyX4 tyX4_ok in_X4 u_98 u_99 u_59 rfl [.null] (by decide) (Nat.le_of_ble_eq_true rfl) (Nat.le_of_ble_eq_true rfl) dd_X1_init_0.2.2.2.1 rfl (fun q_1 => ?_)
  refine xr_eq (bs' := [[(j, .inr (3, [.null, .null, .int 0, .int 0, .int 0, .int 0, .int 0]))], [(q_1, .inr (6, [.null]))]]) rfl ?_
  refine xr_dup (n := 9) C dd_X1_init_0.2.2.2.2.1 rfl rfl ?_
  obtain ⟨x_2, hx_2, hR⟩ := yf_b hR
  refine xr_callIN (n := 12) (As := []) (rest := [.ref q_1, .ref j]) C (kX4_init l D cy (h := q_1) hx_2) mX4_init (host := RX6) (List.mem_of_getElem? (i := 1) rfl) u_101 rfl 2 [1] [0] rfl (by decide +kernel) rfl rfl rfl rfl (Nat.le_of_ble_eq_true rfl) (Nat.le_of_ble_eq_true rfl) (Nat.le_of_ble_eq_true rfl) (Nat.le_of_ble_eq_true rfl) (Nat.le_of_ble_eq_true rfl) dd_X1_init_0.2.2.2.2.2.1 rfl (fun v_3 u_4 hp_5 => ?_)
  obtain ⟨q_6, rfl, rfl⟩ := hp_5
  refine xr_perm C 3 [2, 0, 1] [] [[(j, .inr (3, [.null, .null, .int 0, .int 0, .int 0, .int 0, .int 0]))], [(q_1, .inr (6, [.ref q_6]))], [(q_6, .inl (cy 1, 81, .inl (fun _ => 0)))]] rfl (by decide +kernel) rfl ?_
  refine xr_putF (n := 15) C 0 rfl rfl 0 (by decide) in_X1 tyX1 tyX1_ok nmX1 u_109 rfl rfl hnm rfl rfl rfl (Nat.le_of_ble_eq_true rfl) [[(j, .inr (3, [.ref q_1, .null, .int 0, .int 0, .int 0, .int 0, .int 0]))], [(q_1, .inr (6, [.ref q_6]))], [(q_6, .inl (cy 1, 81, .inl (fun _ => 0)))]] rfl rfl dd_X1_init_0.2.2.2.2.2.2.1 ?_
  refine xr_aload_n (n := 16) (j := 0) C dd_X1_init_0.2.2.2.2.2.2.2.1 rfl rfl ?_
  refine xr_new (n := 19) (ci := 6) C tyX4 tyX4_ok in_X4 u_98 u_99 u_59 rfl [.null] (by decide) (Nat.le_of_ble_eq_true rfl) (Nat.le_of_ble_eq_true rfl) dd_X1_init_0.2.2.2.2.2.2.2.2.1 rfl (fun q_7 => ?_)
  refine xr_eq (bs' := [[(j, .inr (3, [.ref q_1, .null, .int 0, .int 0, .int 0, .int 0, .int 0]))], [(q_1, .inr (6, [.ref q_6]))], [(q_6, .inl (cy 1, 81, .inl (fun _ => 0)))], [(q_7, .inr (6, [.null]))]]) rfl ?_
  refine xr_dup (n := 20) C dd_X1_init_0.2.2.2.2.2.2.2.2.2.1 rfl rfl ?_
  obtain ⟨x_8, hx_8, hR⟩ := yf_b hR
  refine xr_callIN (n := 23) (As := []) (rest := [.ref q_7, .ref j]) C (kX4_init l D cy (h := q_7) hx_8) mX4_init (host := RX6) (List.mem_of_getElem? (i := 1) rfl) u_101 rfl 4 [3] [0, 1, 2] rfl (by decide +kernel) rfl rfl rfl rfl (Nat.le_of_ble_eq_true rfl) (Nat.le_of_ble_eq_true rfl) (Nat.le_of_ble_eq_true rfl) (Nat.le_of_ble_eq_true rfl) (Nat.le_of_ble_eq_true rfl) dd_X1_init_0.2.2.2.2.2.2.2.2.2.2.1 rfl (fun v_9 u_10 hp_11 => ?_)
  obtain ⟨q_12, rfl, rfl⟩ := hp_11
  refine xr_perm C 5 [2, 3, 4, 0, 1] [] [[(j, .inr (3, [.ref q_1, .null, .int 0, .int 0, .int 0, .int 0, .int 0]))], [(q_1, .inr (6, [.ref q_6]))], [(q_6, .inl (cy 1, 81, .inl (fun _ => 0)))], [(q_7, .inr (6, [.ref q_12]))], [(q_12, .inl (cy 1, 81, .inl (fun _ => 0)))]] rfl (by decide +kernel) rfl ?_
  refine xr_putF (n := 26) C 0 rfl rfl 1 (by decide) in_X1 tyX1 tyX1_ok nmX1 u_111 rfl rfl hnm rfl rfl rfl (Nat.le_of_ble_eq_true rfl) [[(j, .inr (3, [.ref q_1, .ref q_7, .int 0, .int 0, .int 0, .int 0, .int 0]))], [(q_1, .inr (6, [.ref q_6]))], [(q_6, .inl (cy 1, 81, .inl (fun _ => 0)))], [(q_7, .inr (6, [.ref q_12]))], [(q_12, .inl (cy 1, 81, .inl (fun _ => 0)))]] rfl rfl dd_X1_init_0.2.2.2.2.2.2.2.2.2.2.2.1 ?_
  refine xr_aload_n (n := 27) (j := 0) C dd_X1_init_0.2.2.2.2.2.2.2.2.2.2.2.2.1 rfl rfl ?_
  refine xr_iconst (n := 28) (v := 2) C dd_X1_init_0.2.2.2.2.2.2.2.2.2.2.2.2.2.1 rfl rfl ?_
  refine xr_put (n := 31) C 0 rfl rfl 2 (by decide) in_X1 tyX1 tyX1_ok nmX1 u_113 rfl rfl rfl rfl (Nat.le_of_ble_eq_true rfl) [[(j, .inr (3, [.ref q_1, .ref q_7, .int 2, .int 0, .int 0, .int 0, .int 0]))], [(q_1, .inr (6, [.ref q_6]))], [(q_6, .inl (cy 1, 81, .inl (fun _ => 0)))], [(q_7, .inr (6, [.ref q_12]))], [(q_12, .inl (cy 1, 81, .inl (fun _ => 0)))]] rfl rfl dd_X1_init_0.2.2.2.2.2.2.2.2.2.2.2.2.2.2.1 ?_
  refine xr_aload_n (n := 32) (j := 0) C dd_X1_init_0.2.2.2.2.2.2.2.2.2.2.2.2.2.2.2.1 rfl rfl ?_
  refine xr_iconst (n := 33) (v := 2) C dd_X1_init_1.1 rfl rfl ?_
  refine xr_put (n := 36) C 0 rfl rfl 3 (by decide) in_X1 tyX1 tyX1_ok nmX1 u_115 rfl rfl rfl rfl (Nat.le_of_ble_eq_true rfl) [[(j, .inr (3, [.ref q_1, .ref q_7, .int 2, .int 2, .int 0, .int 0, .int 0]))], [(q_1, .inr (6, [.ref q_6]))], [(q_6, .inl (cy 1, 81, .inl (fun _ => 0)))], [(q_7, .inr (6, [.ref q_12]))], [(q_12, .inl (cy 1, 81, .inl (fun _ => 0)))]] rfl rfl dd_X1_init_1.2.1 ?_
  refine xr_aload_n (n := 37) (j := 0) C dd_X1_init_1.2.2.1 rfl rfl ?_
  refine xr_iconst (n := 38) (v := 2) C dd_X1_init_1.2.2.2.1 rfl rfl ?_
  refine xr_put (n := 41) C 0 rfl rfl 4 (by decide) in_X1 tyX1 tyX1_ok nmX1 u_117 rfl rfl rfl rfl (Nat.le_of_ble_eq_true rfl) [[(j, .inr (3, [.ref q_1, .ref q_7, .int 2, .int 2, .int 2, .int 0, .int 0]))], [(q_1, .inr (6, [.ref q_6]))], [(q_6, .inl (cy 1, 81, .inl (fun _ => 0)))], [(q_7, .inr (6, [.ref q_12]))], [(q_12, .inl (cy 1, 81, .inl (fun _ => 0)))]] rfl rfl dd_X1_init_1.2.2.2.2.1 ?_
  refine xr_aload_n (n := 42) (j := 0) C dd_X1_init_1.2.2.2.2.2.1 rfl rfl ?_
  refine xr_iconst (n := 43) (v := 0) C dd_X1_init_1.2.2.2.2.2.2.1 rfl rfl ?_
  refine xr_put (n := 46) C 0 rfl rfl 5 (by decide) in_X1 tyX1 tyX1_ok nmX1 u_119 rfl rfl rfl rfl (Nat.le_of_ble_eq_true rfl) [[(j, .inr (3, [.ref q_1, .ref q_7, .int 2, .int 2, .int 2, .int 0, .int 0]))], [(q_1, .inr (6, [.ref q_6]))], [(q_6, .inl (cy 1, 81, .inl (fun _ => 0)))], [(q_7, .inr (6, [.ref q_12]))], [(q_12, .inl (cy 1, 81, .inl (fun _ => 0)))]] rfl rfl dd_X1_init_1.2.2.2.2.2.2.2.1 ?_
  refine xr_aload_n (n := 47) (j := 0) C dd_X1_init_1.2.2.2.2.2.2.2.2.1 rfl rfl ?_
  refine xr_iconst (n := 48) (v := 0) C dd_X1_init_1.2.2.2.2.2.2.2.2.2.1 rfl rfl ?_
  refine xr_put (n := 51) C 0 rfl rfl 6 (by decide) in_X1 tyX1 tyX1_ok nmX1 u_121 rfl rfl (by decide) (by decide) (Nat.le_of_ble_eq_true rfl) [[(j, .inr (3, [.ref q_1, .ref q_7, .int 2, .int 2, .int 2, .int 0, .int 0]))], [(q_1, .inr (6, [.ref q_6]))], [(q_6, .inl (cy 1, 81, .inl (fun _ => 0)))], [(q_7, .inr (6, [.ref q_12]))], [(q_12, .inl (cy 1, 81, .inl (fun _ => 0)))]] rfl rfl dd_X1_init_1.2.2.2.2.2.2.2.2.2.2.1 ?_
  obtain rfl := Option.some.inj hR
  exact ret ⟨q_1, q_7, q_6, q_12, rfl, rfl⟩ (Nat.le_of_ble_eq_true rfl) (Nat.le_of_ble_eq_true rfl) dd_X1_init_1.2.2.2.2.2.2.2.2.2.2.2.1
theorem dd_X0_init_0 : dk_R cX0_init [(0, .aload_n 0, 1), (1, .invokespecial 3, 3), (4, .aload_n 0, 1), (5, .new 9, 3), (8, .dup, 1), (9, .invokespecial 11, 3), (12, .putfield 12, 3), (15, .aload_n 0, 1), (16, .new 9, 3), (19, .dup, 1), (20, .invokespecial 11, 3), (23, .putfield 18, 3), (26, .aload_n 0, 1), (27, .iconst 0, 1), (28, .putfield 21, 3), (31, .aload_n 0, 1)] := dk_use _ _ (by decide +kernel)
theorem dd_X0_init_1 : dk_R cX0_init [(32, .iconst 0, 1), (33, .putfield 25, 3), (36, .return_, 1)] := dk_use _ _ (by decide +kernel)
def fX0_init  : Option (Unit) := ((fX4_init).bind fun x_2 => ((fX4_init).bind fun x_8 => some ()))
abbrev hX0_init : Cond := .code yX0_init cX0_init 1 none
theorem mX0_init : yM yX0_init hX0_init 0 := ⟨u_143, u_60, by decide +kernel, by decide +kernel, by decide +kernel⟩
set_option maxHeartbeats 4000000 in
set_option maxRecDepth 100000 in
theorem kX0_init (l : Launch) (D : va_G) (cy : Nat → ClassId) (w : Nat) {res : Unit} (hR : fX0_init  = some res) : YM l D cy yX0_init hX0_init 2 4 164 [.ref w] [[(w, .inr (2, [.null, .null, .int 0, .int 0]))]] (fun v u => ∃ wu : Nat, ∃ wm : Nat, ∃ wun : Nat, ∃ wmn : Nat, v = none ∧ u = [[(w, .inr (2, [.ref wu, .ref wm, .int 0, .int 0]))], [(wu, .inr (6, [.ref wun]))], [(wun, .inl (cy 1, 81, .inl (fun _ => 0)))], [(wm, .inr (6, [.ref wmn]))], [(wmn, .inl (cy 1, 81, .inl (fun _ => 0)))]]) := by
  unfold fX0_init at hR
  refine YM.ofV (cc := cX0_init) (maxL := 1) (ret := none) (by decide +kernel) rfl (Nat.le_of_ble_eq_true rfl) [(0, .ref w)] rfl rfl (fun p e s m args below meth c A H0 Q C hnm ret => ?_)
  refine xr_aload_n (n := 1) (j := 0) C dd_X0_init_0.1 rfl rfl ?_
  refine xr_objInit (n := 4) C u_144 u_90 u_91 (Nat.le_of_ble_eq_true rfl) (Nat.le_of_ble_eq_true rfl) (Nat.le_of_ble_eq_true rfl) dd_X0_init_0.2.1 rfl ?_
  refine xr_aload_n (n := 5) (j := 0) C dd_X0_init_0.2.2.1 rfl rfl ?_
  refine xr_new (n := 8) (ci := 6) C tyX4 tyX4_ok in_X4 u_145 u_99 u_59 rfl [.null] (by decide) (Nat.le_of_ble_eq_true rfl) (Nat.le_of_ble_eq_true rfl) dd_X0_init_0.2.2.2.1 rfl (fun q_1 => ?_)
  refine xr_eq (bs' := [[(w, .inr (2, [.null, .null, .int 0, .int 0]))], [(q_1, .inr (6, [.null]))]]) rfl ?_
  refine xr_dup (n := 9) C dd_X0_init_0.2.2.2.2.1 rfl rfl ?_
  obtain ⟨x_2, hx_2, hR⟩ := yf_b hR
  refine xr_callIN (n := 12) (As := []) (rest := [.ref q_1, .ref w]) C (kX4_init l D cy (h := q_1) hx_2) mX4_init (host := RX6) (List.mem_of_getElem? (i := 11) rfl) u_101 rfl 2 [1] [0] rfl (by decide +kernel) rfl rfl rfl rfl (Nat.le_of_ble_eq_true rfl) (Nat.le_of_ble_eq_true rfl) (Nat.le_of_ble_eq_true rfl) (Nat.le_of_ble_eq_true rfl) (Nat.le_of_ble_eq_true rfl) dd_X0_init_0.2.2.2.2.2.1 rfl (fun v_3 u_4 hp_5 => ?_)
  obtain ⟨q_6, rfl, rfl⟩ := hp_5
  refine xr_perm C 3 [2, 0, 1] [] [[(w, .inr (2, [.null, .null, .int 0, .int 0]))], [(q_1, .inr (6, [.ref q_6]))], [(q_6, .inl (cy 1, 81, .inl (fun _ => 0)))]] rfl (by decide +kernel) rfl ?_
  refine xr_putF (n := 15) C 0 rfl rfl 0 (by decide) in_X0 tyX0 tyX0_ok nmX0 u_147 rfl rfl hnm rfl rfl rfl (Nat.le_of_ble_eq_true rfl) [[(w, .inr (2, [.ref q_1, .null, .int 0, .int 0]))], [(q_1, .inr (6, [.ref q_6]))], [(q_6, .inl (cy 1, 81, .inl (fun _ => 0)))]] rfl rfl dd_X0_init_0.2.2.2.2.2.2.1 ?_
  refine xr_aload_n (n := 16) (j := 0) C dd_X0_init_0.2.2.2.2.2.2.2.1 rfl rfl ?_
  refine xr_new (n := 19) (ci := 6) C tyX4 tyX4_ok in_X4 u_145 u_99 u_59 rfl [.null] (by decide) (Nat.le_of_ble_eq_true rfl) (Nat.le_of_ble_eq_true rfl) dd_X0_init_0.2.2.2.2.2.2.2.2.1 rfl (fun q_7 => ?_)
  refine xr_eq (bs' := [[(w, .inr (2, [.ref q_1, .null, .int 0, .int 0]))], [(q_1, .inr (6, [.ref q_6]))], [(q_6, .inl (cy 1, 81, .inl (fun _ => 0)))], [(q_7, .inr (6, [.null]))]]) rfl ?_
  refine xr_dup (n := 20) C dd_X0_init_0.2.2.2.2.2.2.2.2.2.1 rfl rfl ?_
  obtain ⟨x_8, hx_8, hR⟩ := yf_b hR
  refine xr_callIN (n := 23) (As := []) (rest := [.ref q_7, .ref w]) C (kX4_init l D cy (h := q_7) hx_8) mX4_init (host := RX6) (List.mem_of_getElem? (i := 11) rfl) u_101 rfl 4 [3] [0, 1, 2] rfl (by decide +kernel) rfl rfl rfl rfl (Nat.le_of_ble_eq_true rfl) (Nat.le_of_ble_eq_true rfl) (Nat.le_of_ble_eq_true rfl) (Nat.le_of_ble_eq_true rfl) (Nat.le_of_ble_eq_true rfl) dd_X0_init_0.2.2.2.2.2.2.2.2.2.2.1 rfl (fun v_9 u_10 hp_11 => ?_)
  obtain ⟨q_12, rfl, rfl⟩ := hp_11
  refine xr_perm C 5 [2, 3, 4, 0, 1] [] [[(w, .inr (2, [.ref q_1, .null, .int 0, .int 0]))], [(q_1, .inr (6, [.ref q_6]))], [(q_6, .inl (cy 1, 81, .inl (fun _ => 0)))], [(q_7, .inr (6, [.ref q_12]))], [(q_12, .inl (cy 1, 81, .inl (fun _ => 0)))]] rfl (by decide +kernel) rfl ?_
  refine xr_putF (n := 26) C 0 rfl rfl 1 (by decide) in_X0 tyX0 tyX0_ok nmX0 u_149 rfl rfl hnm rfl rfl rfl (Nat.le_of_ble_eq_true rfl) [[(w, .inr (2, [.ref q_1, .ref q_7, .int 0, .int 0]))], [(q_1, .inr (6, [.ref q_6]))], [(q_6, .inl (cy 1, 81, .inl (fun _ => 0)))], [(q_7, .inr (6, [.ref q_12]))], [(q_12, .inl (cy 1, 81, .inl (fun _ => 0)))]] rfl rfl dd_X0_init_0.2.2.2.2.2.2.2.2.2.2.2.1 ?_
  refine xr_aload_n (n := 27) (j := 0) C dd_X0_init_0.2.2.2.2.2.2.2.2.2.2.2.2.1 rfl rfl ?_
  refine xr_iconst (n := 28) (v := 0) C dd_X0_init_0.2.2.2.2.2.2.2.2.2.2.2.2.2.1 rfl rfl ?_
  refine xr_put (n := 31) C 0 rfl rfl 2 (by decide) in_X0 tyX0 tyX0_ok nmX0 u_152 rfl rfl rfl rfl (Nat.le_of_ble_eq_true rfl) [[(w, .inr (2, [.ref q_1, .ref q_7, .int 0, .int 0]))], [(q_1, .inr (6, [.ref q_6]))], [(q_6, .inl (cy 1, 81, .inl (fun _ => 0)))], [(q_7, .inr (6, [.ref q_12]))], [(q_12, .inl (cy 1, 81, .inl (fun _ => 0)))]] rfl rfl dd_X0_init_0.2.2.2.2.2.2.2.2.2.2.2.2.2.2.1 ?_
  refine xr_aload_n (n := 32) (j := 0) C dd_X0_init_0.2.2.2.2.2.2.2.2.2.2.2.2.2.2.2.1 rfl rfl ?_
  refine xr_iconst (n := 33) (v := 0) C dd_X0_init_1.1 rfl rfl ?_
  refine xr_put (n := 36) C 0 rfl rfl 3 (by decide) in_X0 tyX0 tyX0_ok nmX0 u_154 rfl rfl rfl rfl (Nat.le_of_ble_eq_true rfl) [[(w, .inr (2, [.ref q_1, .ref q_7, .int 0, .int 0]))], [(q_1, .inr (6, [.ref q_6]))], [(q_6, .inl (cy 1, 81, .inl (fun _ => 0)))], [(q_7, .inr (6, [.ref q_12]))], [(q_12, .inl (cy 1, 81, .inl (fun _ => 0)))]] rfl rfl dd_X0_init_1.2.1 ?_
  obtain rfl := Option.some.inj hR
  exact ret ⟨q_1, q_7, q_6, q_12, rfl, rfl⟩ (Nat.le_of_ble_eq_true rfl) (Nat.le_of_ble_eq_true rfl) dd_X0_init_1.2.2.1
