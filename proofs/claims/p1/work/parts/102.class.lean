theorem u_407 : Cond.methodLink RX0 42 yX0_knownColumns ∈ yU := yu_tables_1_2 111 (by decide +kernel) (by decide +kernel)
theorem u_371 : Cond.instanceMethod yX0_knownColumns ∈ yU := yu_tables_1_2 75 (by decide +kernel) (by decide +kernel)
theorem u_372 : Cond.selects RX0 yX0_knownColumns yX0_knownColumns ∈ yU := yu_tables_1_2 76 (by decide +kernel) (by decide +kernel)
theorem u_406 : Cond.code yX0_crossKnown cX0_crossKnown 3 (some .boolean) ∈ yU := yu_tables_1_2 110 (by decide +kernel) (by decide +kernel)
theorem u_149 : Cond.fieldLink RX0 18 "Pulsemesh$Cells" "sums" "LPulsemesh$Table;" ∈ yU := yu_tables_1_1 93 (by decide +kernel) (by decide +kernel)
theorem u_813 : Cond.methodLink RX0 45 yX4_set ∈ yU := yu_tables_1_4 37 (by decide +kernel) (by decide +kernel)
theorem u_680 : Cond.instanceMethod yX4_set ∈ yU := yu_tables_1_3 144 (by decide +kernel) (by decide +kernel)
theorem u_681 : Cond.selects RX4 yX4_set yX4_set ∈ yU := yu_tables_1_3 145 (by decide +kernel) (by decide +kernel)
theorem u_147 : Cond.fieldLink RX0 12 "Pulsemesh$Cells" "uses" "LPulsemesh$Table;" ∈ yU := yu_tables_1_1 91 (by decide +kernel) (by decide +kernel)
theorem u_424 : Cond.methodLink RX0 49 yX4_get ∈ yU := yu_tables_1_2 128 (by decide +kernel) (by decide +kernel)
theorem u_341 : Cond.instanceMethod yX4_get ∈ yU := yu_tables_1_2 45 (by decide +kernel) (by decide +kernel)
theorem u_342 : Cond.selects RX4 yX4_get yX4_get ∈ yU := yu_tables_1_2 46 (by decide +kernel) (by decide +kernel)
theorem u_812 : Cond.code yX0_takeIn cX0_takeIn 4 none ∈ yU := yu_tables_1_4 36 (by decide +kernel) (by decide +kernel)
theorem u_423 : Cond.code yX0_sumOfUses cX0_sumOfUses 4 (some .int) ∈ yU := yu_tables_1_2 127 (by decide +kernel) (by decide +kernel)
theorem u_121 : Cond.fieldLink RX1 34 "Pulsemesh$Job" "hasSums" "Z" ∈ yU := yu_tables_1_1 65 (by decide +kernel) (by decide +kernel)
theorem u_113 : Cond.fieldLink RX1 21 "Pulsemesh$Job" "\x72" "I" ∈ yU := yu_tables_1_1 57 (by decide +kernel) (by decide +kernel)
theorem u_323 : Cond.code yX1_rowsInAll cX1_rowsInAll 1 (some .int) ∈ yU := yu_tables_1_2 27 (by decide +kernel) (by decide +kernel)
theorem u_58 : Cond.initialized RX1 ∈ yU := yu_tables_1_1 2 (by decide +kernel) (by decide +kernel)
theorem u_117 : Cond.fieldLink RX1 28 "Pulsemesh$Job" "c" "I" ∈ yU := yu_tables_1_1 61 (by decide +kernel) (by decide +kernel)
theorem u_327 : Cond.code yX1_columnsInAll cX1_columnsInAll 1 (some .int) ∈ yU := yu_tables_1_2 31 (by decide +kernel) (by decide +kernel)
theorem u_115 : Cond.fieldLink RX1 25 "Pulsemesh$Job" "k" "I" ∈ yU := yu_tables_1_1 59 (by decide +kernel) (by decide +kernel)
theorem u_109 : Cond.fieldLink RX1 12 "Pulsemesh$Job" "a" "LPulsemesh$Table;" ∈ yU := yu_tables_1_1 53 (by decide +kernel) (by decide +kernel)
theorem u_647 : Cond.methodLink RX1 38 yX4_fill ∈ yU := yu_tables_1_3 111 (by decide +kernel) (by decide +kernel)
theorem u_648 : Cond.instanceMethod yX4_fill ∈ yU := yu_tables_1_3 112 (by decide +kernel) (by decide +kernel)
theorem u_649 : Cond.selects RX4 yX4_fill yX4_fill ∈ yU := yu_tables_1_3 113 (by decide +kernel) (by decide +kernel)
theorem u_111 : Cond.fieldLink RX1 18 "Pulsemesh$Job" "b" "LPulsemesh$Table;" ∈ yU := yu_tables_1_1 55 (by decide +kernel) (by decide +kernel)
theorem u_646 : Cond.code yX1_reshape cX1_reshape 4 none ∈ yU := yu_tables_1_3 110 (by decide +kernel) (by decide +kernel)
theorem dd_X0_crossKnown_0 : dk_R cX0_crossKnown [(0, .iload_n 2, 1), (1, .aload_n 0, 1), (2, .iload_n 1, 1), (3, .invokevirtual 42, 3), (6, .iand, 1), (7, .ifCond .eq 7, 3), (10, .iconst 1, 1), (11, .goto 4, 3), (14, .iconst 0, 1), (15, .ireturn, 1)] := dk_use _ _ (by decide +kernel)
def fX0_crossKnown (wk : Int32) (i1 : Int32) (i2 : Int32) : Option (Int32) := ((fX0_knownColumns wk i1).bind fun x_1 => (if (i2 &&& x_1) = 0 then some 0 else some 1))
abbrev hX0_crossKnown : Cond := .code yX0_crossKnown cX0_crossKnown 3 (some .boolean)
theorem mX0_crossKnown : yM yX0_crossKnown hX0_crossKnown 2 := ⟨u_406, u_60, by decide +kernel, by decide +kernel, by decide +kernel⟩
set_option maxHeartbeats 4000000 in
set_option maxRecDepth 100000 in
theorem kX0_crossKnown (l : Launch) (D : va_G) (cy : Nat → ClassId) (w : Nat) (wu : Nat) (wm : Nat) (wb : Int32) (wk : Int32) (i1 : Int32) (i2 : Int32) {res : Int32} (hR : fX0_crossKnown wk i1 i2 = some res) : YM l D cy yX0_crossKnown hX0_crossKnown 2 0 0 [.ref w, .int i1, .int i2] [[(w, .inr (2, [.ref wu, .ref wm, .int wb, .int wk]))]] (fun v u => v = some (.int res) ∧ u = [[(w, .inr (2, [.ref wu, .ref wm, .int wb, .int wk]))]]) := by
  unfold fX0_crossKnown at hR
  refine YM.ofZ (cc := cX0_crossKnown) (maxL := 3) (ret := (some .boolean)) (by decide +kernel) rfl (Nat.le_of_ble_eq_true rfl) [(0, .ref w), (1, .int i1), (2, .int i2)] rfl .boolean rfl (fun p e s m args below meth c A H0 Q C hnm ret => ?_)
  refine xr_iload_n (n := 1) (j := 2) C dd_X0_crossKnown_0.1 rfl rfl ?_
  refine xr_aload_n (n := 2) (j := 0) C dd_X0_crossKnown_0.2.1 rfl rfl ?_
  refine xr_iload_n (n := 3) (j := 1) C dd_X0_crossKnown_0.2.2.1 rfl rfl ?_
  obtain ⟨x_1, hx_1, hR⟩ := yf_b hR
  refine xr_callVp (n := 6) (As := [.int i1]) (rest := [.int i2]) C (kX0_knownColumns l D cy (w := w) (wu := wu) (wm := wm) (wb := wb) (wk := wk) (i1 := i1) hx_1) mX0_knownColumns u_407 u_371 u_372 0 rfl rfl 1 [0] [] rfl (by decide +kernel) rfl rfl rfl rfl (Nat.le_of_ble_eq_true rfl) (Nat.le_of_ble_eq_true rfl) (Nat.le_of_ble_eq_true rfl) (Nat.le_of_ble_eq_true rfl) (Nat.le_of_ble_eq_true rfl) dd_X0_crossKnown_0.2.2.2.1 rfl (fun _ _ hp => hp.2) (fun v_2 hp_4 => ?_)
  obtain ⟨rfl, -⟩ := hp_4
  refine xr_st (st' := [.int x_1, .int i2]) rfl ?_
  refine xr_iand (n := 7) C dd_X0_crossKnown_0.2.2.2.2.1 rfl ?_
  refine xr_if_eq (tgt := 14) (n := 10) C dd_X0_crossKnown_0.2.2.2.2.2.1 rfl rfl (fun c_5 => ?_) (fun c_5 => ?_)
  · replace hR := yf_t c_5 hR
    refine xr_iconst (n := 15) (v := 0) C dd_X0_crossKnown_0.2.2.2.2.2.2.2.2.1 rfl rfl ?_
    obtain rfl := Option.some.inj hR
    exact ret 0 (by decide) ⟨rfl, rfl⟩ (Nat.le_of_ble_eq_true rfl) (Nat.le_of_ble_eq_true rfl) dd_X0_crossKnown_0.2.2.2.2.2.2.2.2.2.1
  · replace hR := yf_f c_5 hR
    refine xr_iconst (n := 11) (v := 1) C dd_X0_crossKnown_0.2.2.2.2.2.2.1 rfl rfl ?_
    refine xr_goto (tgt := 15) C dd_X0_crossKnown_0.2.2.2.2.2.2.2.1 rfl ?_
    obtain rfl := Option.some.inj hR
    exact ret 1 (by decide) ⟨rfl, rfl⟩ (Nat.le_of_ble_eq_true rfl) (Nat.le_of_ble_eq_true rfl) dd_X0_crossKnown_0.2.2.2.2.2.2.2.2.2.1
theorem dd_X0_takeIn_0 : dk_R cX0_takeIn [(0, .aload_n 0, 1), (1, .getfield 18, 3), (4, .iload_n 1, 1), (5, .iload_n 2, 1), (6, .aload_n 0, 1), (7, .iload_n 1, 1), (8, .iload_n 2, 1), (9, .invokevirtual 32, 3), (12, .ifCond .eq 9, 3), (15, .iload_n 3, 1), (16, .iconst 1, 1), (17, .iadd, 1), (18, .goto 4, 3), (21, .iload_n 3, 1), (22, .invokevirtual 45, 3), (25, .aload_n 0, 1)] := dk_use _ _ (by decide +kernel)
theorem dd_X0_takeIn_1 : dk_R cX0_takeIn [(26, .getfield 12, 3), (29, .iload_n 1, 1), (30, .iload_n 2, 1), (31, .aload_n 0, 1), (32, .getfield 12, 3), (35, .iload_n 1, 1), (36, .iload_n 2, 1), (37, .invokevirtual 49, 3), (40, .iconst 1, 1), (41, .iadd, 1), (42, .invokevirtual 45, 3), (45, .return_, 1)] := dk_use _ _ (by decide +kernel)
def fX0_takeIn (wb : Int32) (wuf : Nat → Int32) (wmf : Nat → Int32) (i1 : Int32) (i2 : Int32) (i3 : Int32) : Option ((Nat → Int32) × (Nat → Int32)) := ((fX0_isBrokenAt wb i1 i2).bind fun x_1 => ((((if x_1 = 0 then some i3 else some (i3 + 1)) : Option (Int32))).bind fun r_6 => ((fX4_set wmf i1 i2 r_6).bind fun x_7 => ((fX4_get wuf i1 i2).bind fun x_11 => ((fX4_set wuf i1 i2 (x_11 + 1)).bind fun x_15 => some (x_15, x_7))))))
abbrev hX0_takeIn : Cond := .code yX0_takeIn cX0_takeIn 4 none
theorem mX0_takeIn : yM yX0_takeIn hX0_takeIn 3 := ⟨u_812, u_60, by decide +kernel, by decide +kernel, by decide +kernel⟩
set_option maxHeartbeats 4000000 in
set_option maxRecDepth 100000 in
theorem kX0_takeIn (l : Launch) (D : va_G) (cy : Nat → ClassId) (w : Nat) (wu : Nat) (wm : Nat) (wb : Int32) (wk : Int32) (wun : Nat) (wuf : Nat → Int32) (wmn : Nat) (wmf : Nat → Int32) (i1 : Int32) (i2 : Int32) (i3 : Int32) {res : (Nat → Int32) × (Nat → Int32)} (hR : fX0_takeIn wb wuf wmf i1 i2 i3 = some res) : YM l D cy yX0_takeIn hX0_takeIn 3 0 0 [.ref w, .int i1, .int i2, .int i3] [[(w, .inr (2, [.ref wu, .ref wm, .int wb, .int wk]))], [(wu, .inr (6, [.ref wun]))], [(wun, .inl (cy 1, 81, .inl wuf))], [(wm, .inr (6, [.ref wmn]))], [(wmn, .inl (cy 1, 81, .inl wmf))]] (fun v u => v = none ∧ u = [[(w, .inr (2, [.ref wu, .ref wm, .int wb, .int wk]))], [(wu, .inr (6, [.ref wun]))], [(wun, .inl (cy 1, 81, .inl res.1))], [(wm, .inr (6, [.ref wmn]))], [(wmn, .inl (cy 1, 81, .inl res.2))]]) := by
  unfold fX0_takeIn at hR
  refine YM.ofV (cc := cX0_takeIn) (maxL := 4) (ret := none) (by decide +kernel) rfl (Nat.le_of_ble_eq_true rfl) [(0, .ref w), (1, .int i1), (2, .int i2), (3, .int i3)] rfl rfl (fun p e s m args below meth c A H0 Q C hnm ret => ?_)
  refine xr_aload_n (n := 1) (j := 0) C dd_X0_takeIn_0.1 rfl rfl ?_
  refine xr_get (n := 4) C 0 rfl rfl 1 (by decide) in_X0 u_149 rfl (v := .ref wm) rfl dd_X0_takeIn_0.2.1 rfl ?_
  refine xr_iload_n (n := 5) (j := 1) C dd_X0_takeIn_0.2.2.1 rfl rfl ?_
  refine xr_iload_n (n := 6) (j := 2) C dd_X0_takeIn_0.2.2.2.1 rfl rfl ?_
  refine xr_aload_n (n := 7) (j := 0) C dd_X0_takeIn_0.2.2.2.2.1 rfl rfl ?_
  refine xr_iload_n (n := 8) (j := 1) C dd_X0_takeIn_0.2.2.2.2.2.1 rfl rfl ?_
  refine xr_iload_n (n := 9) (j := 2) C dd_X0_takeIn_0.2.2.2.2.2.2.1 rfl rfl ?_
  obtain ⟨x_1, hx_1, hR⟩ := yf_b hR
  refine xr_callVp (n := 12) (As := [.int i1, .int i2]) (rest := [.int i2, .int i1, .ref wm]) C (kX0_isBrokenAt l D cy (w := w) (wu := wu) (wm := wm) (wb := wb) (wk := wk) (i1 := i1) (i2 := i2) hx_1) mX0_isBrokenAt u_485 u_486 u_487 0 rfl rfl 5 [0] [1, 2, 3, 4] rfl (by decide +kernel) rfl rfl rfl rfl (Nat.le_of_ble_eq_true rfl) (Nat.le_of_ble_eq_true rfl) (Nat.le_of_ble_eq_true rfl) (Nat.le_of_ble_eq_true rfl) (Nat.le_of_ble_eq_true rfl) dd_X0_takeIn_0.2.2.2.2.2.2.2.1 rfl (fun _ _ hp => hp.2) (fun v_2 hp_4 => ?_)
  obtain ⟨rfl, -⟩ := hp_4
  refine xr_st (st' := [.int x_1, .int i2, .int i1, .ref wm]) rfl ?_
  obtain ⟨r_6, hE_6, hR⟩ := yf_b hR
  have J_6 : X p l e (yR 3 0 0) s m args below meth c D A H0 4 Q [[(w, .inr (2, [.ref wu, .ref wm, .int wb, .int wk]))], [(wu, .inr (6, [.ref wun]))], [(wun, .inl (cy 1, 81, .inl wuf))], [(wm, .inr (6, [.ref wmn]))], [(wmn, .inl (cy 1, 81, .inl wmf))]] 0 0 [(0, .ref w), (1, .int i1), (2, .int i2)] 22 [.int r_6, .int i2, .int i1, .ref wm] := by
    obtain ⟨x_7, hx_7, hR⟩ := yf_b hR
    refine xr_callV (n := 25) (As := [.int i1, .int i2, .int r_6]) (rest := []) C (kX4_set l D cy (h := wm) (hn := wmn) (hf := wmf) (row := i1) (col := i2) (num := r_6) hx_7) mX4_set u_813 u_680 u_681 3 rfl rfl 5 [3, 4] [0, 1, 2] rfl (by decide +kernel) rfl rfl rfl rfl (Nat.le_of_ble_eq_true rfl) (Nat.le_of_ble_eq_true rfl) (Nat.le_of_ble_eq_true rfl) (Nat.le_of_ble_eq_true rfl) (Nat.le_of_ble_eq_true rfl) dd_X0_takeIn_0.2.2.2.2.2.2.2.2.2.2.2.2.2.2.1 rfl (fun v_8 u_9 hp_10 => ?_)
    obtain ⟨rfl, rfl⟩ := hp_10
    refine xr_perm C 5 [2, 3, 4, 0, 1] [] [[(w, .inr (2, [.ref wu, .ref wm, .int wb, .int wk]))], [(wu, .inr (6, [.ref wun]))], [(wun, .inl (cy 1, 81, .inl wuf))], [(wm, .inr (6, [.ref wmn]))], [(wmn, .inl (cy 1, 81, .inl x_7))]] rfl (by decide +kernel) rfl ?_
    refine xr_aload_n (n := 26) (j := 0) C dd_X0_takeIn_0.2.2.2.2.2.2.2.2.2.2.2.2.2.2.2.1 rfl rfl ?_
    refine xr_get (n := 29) C 0 rfl rfl 0 (by decide) in_X0 u_147 rfl (v := .ref wu) rfl dd_X0_takeIn_1.1 rfl ?_
    refine xr_iload_n (n := 30) (j := 1) C dd_X0_takeIn_1.2.1 rfl rfl ?_
    refine xr_iload_n (n := 31) (j := 2) C dd_X0_takeIn_1.2.2.1 rfl rfl ?_
    refine xr_aload_n (n := 32) (j := 0) C dd_X0_takeIn_1.2.2.2.1 rfl rfl ?_
    refine xr_get (n := 35) C 0 rfl rfl 0 (by decide) in_X0 u_147 rfl (v := .ref wu) rfl dd_X0_takeIn_1.2.2.2.2.1 rfl ?_
    refine xr_iload_n (n := 36) (j := 1) C dd_X0_takeIn_1.2.2.2.2.2.1 rfl rfl ?_
    refine xr_iload_n (n := 37) (j := 2) C dd_X0_takeIn_1.2.2.2.2.2.2.1 rfl rfl ?_
    obtain ⟨x_11, hx_11, hR⟩ := yf_b hR
    refine xr_callVp (n := 40) (As := [.int i1, .int i2]) (rest := [.int i2, .int i1, .ref wu]) C (kX4_get l D cy (h := wu) (hn := wun) (hf := wuf) (row := i1) (col := i2) hx_11) mX4_get u_424 u_341 u_342 1 rfl rfl 5 [1, 2] [0, 3, 4] rfl (by decide +kernel) rfl rfl rfl rfl (Nat.le_of_ble_eq_true rfl) (Nat.le_of_ble_eq_true rfl) (Nat.le_of_ble_eq_true rfl) (Nat.le_of_ble_eq_true rfl) (Nat.le_of_ble_eq_true rfl) dd_X0_takeIn_1.2.2.2.2.2.2.2.1 rfl (fun _ _ hp => hp.2) (fun v_12 hp_14 => ?_)
    obtain ⟨rfl, -⟩ := hp_14
    refine xr_st (st' := [.int x_11, .int i2, .int i1, .ref wu]) rfl ?_
    refine xr_iconst (n := 41) (v := 1) C dd_X0_takeIn_1.2.2.2.2.2.2.2.2.1 rfl rfl ?_
    refine xr_iadd (n := 42) C dd_X0_takeIn_1.2.2.2.2.2.2.2.2.2.1 rfl ?_
    obtain ⟨x_15, hx_15, hR⟩ := yf_b hR
    refine xr_callV (n := 45) (As := [.int i1, .int i2, .int (x_11 + 1)]) (rest := []) C (kX4_set l D cy (h := wu) (hn := wun) (hf := wuf) (row := i1) (col := i2) (num := x_11 + 1) hx_15) mX4_set u_813 u_680 u_681 1 rfl rfl 5 [1, 2] [0, 3, 4] rfl (by decide +kernel) rfl rfl rfl rfl (Nat.le_of_ble_eq_true rfl) (Nat.le_of_ble_eq_true rfl) (Nat.le_of_ble_eq_true rfl) (Nat.le_of_ble_eq_true rfl) (Nat.le_of_ble_eq_true rfl) dd_X0_takeIn_1.2.2.2.2.2.2.2.2.2.2.1 rfl (fun v_16 u_17 hp_18 => ?_)
    obtain ⟨rfl, rfl⟩ := hp_18
    refine xr_perm C 5 [2, 0, 1, 3, 4] [] [[(w, .inr (2, [.ref wu, .ref wm, .int wb, .int wk]))], [(wu, .inr (6, [.ref wun]))], [(wun, .inl (cy 1, 81, .inl x_15))], [(wm, .inr (6, [.ref wmn]))], [(wmn, .inl (cy 1, 81, .inl x_7))]] rfl (by decide +kernel) rfl ?_
    obtain rfl := Option.some.inj hR
    exact ret ⟨rfl, rfl⟩ (Nat.le_of_ble_eq_true rfl) (Nat.le_of_ble_eq_true rfl) dd_X0_takeIn_1.2.2.2.2.2.2.2.2.2.2.2.1
  refine xr_if_eq (tgt := 21) (n := 15) C dd_X0_takeIn_0.2.2.2.2.2.2.2.2.1 rfl rfl (fun c_19 => ?_) (fun c_19 => ?_)
  · replace hE_6 := yf_t c_19 hE_6
    refine xr_iload_n (n := 22) (j := 3) C dd_X0_takeIn_0.2.2.2.2.2.2.2.2.2.2.2.2.2.1 rfl rfl ?_
    refine xr_lv (lv' := [(0, .ref w), (1, .int i1), (2, .int i2)]) [0, 1, 2] rfl ?_
    have e_20 := Option.some.inj hE_6
    subst e_20
    exact J_6
  · replace hE_6 := yf_f c_19 hE_6
    refine xr_iload_n (n := 16) (j := 3) C dd_X0_takeIn_0.2.2.2.2.2.2.2.2.2.1 rfl rfl ?_
    refine xr_iconst (n := 17) (v := 1) C dd_X0_takeIn_0.2.2.2.2.2.2.2.2.2.2.1 rfl rfl ?_
    refine xr_iadd (n := 18) C dd_X0_takeIn_0.2.2.2.2.2.2.2.2.2.2.2.1 rfl ?_
    refine xr_goto (tgt := 22) C dd_X0_takeIn_0.2.2.2.2.2.2.2.2.2.2.2.2.1 rfl ?_
    refine xr_lv (lv' := [(0, .ref w), (1, .int i1), (2, .int i2)]) [0, 1, 2] rfl ?_
    have e_21 := Option.some.inj hE_6
    subst e_21
    exact J_6
theorem dd_X0_sumOfUses_0 : dk_R cX0_sumOfUses [(0, .iconst 0, 1), (1, .istore_n 1, 1), (2, .iconst 0, 1), (3, .istore_n 2, 1), (4, .iload_n 2, 1), (5, .iconst 5, 1), (6, .if_icmp .ge 34, 3), (9, .iconst 0, 1), (10, .istore_n 3, 1), (11, .iload_n 3, 1), (12, .iconst 5, 1), (13, .if_icmp .ge 21, 3), (16, .iload_n 1, 1), (17, .aload_n 0, 1), (18, .getfield 12, 3), (21, .iload_n 2, 1)] := dk_use _ _ (by decide +kernel)
theorem dd_X0_sumOfUses_1 : dk_R cX0_sumOfUses [(22, .iload_n 3, 1), (23, .invokevirtual 49, 3), (26, .iadd, 1), (27, .istore_n 1, 1), (28, .iinc 3 1, 3), (31, .goto (-20), 3), (34, .iinc 2 1, 3), (37, .goto (-33), 3), (40, .iload_n 1, 1), (41, .ireturn, 1)] := dk_use _ _ (by decide +kernel)
def fX0_sumOfUses (wuf : Nat → Int32) : Option (Int32) := ((wl (S := Int32 × Int32) (B := Int32 × Int32) (fun s_1 => (if 5 ≤ s_1.2 then some (.inr (s_1.1, s_1.2)) else ((wl (S := Int32 × Int32) (B := Int32 × Int32) (fun s_4 => (if 5 ≤ s_4.2 then some (.inr (s_4.1, s_4.2)) else ((fX4_get wuf s_1.2 s_4.2).bind fun x_7 => some (.inl (s_4.1 + x_7, s_4.2 + 1))))) yFuel (s_1.1, 0)).bind fun b_4 => some (.inl (b_4.1, s_1.2 + 1))))) yFuel (0, 0)).bind fun b_1 => some b_1.1)
abbrev hX0_sumOfUses : Cond := .code yX0_sumOfUses cX0_sumOfUses 4 (some .int)
theorem mX0_sumOfUses : yM yX0_sumOfUses hX0_sumOfUses 0 := ⟨u_423, u_60, by decide +kernel, by decide +kernel, by decide +kernel⟩
set_option maxHeartbeats 4000000 in
set_option maxRecDepth 100000 in
theorem kX0_sumOfUses (l : Launch) (D : va_G) (cy : Nat → ClassId) (w : Nat) (wu : Nat) (wm : Nat) (wb : Int32) (wk : Int32) (wun : Nat) (wuf : Nat → Int32) {res : Int32} (hR : fX0_sumOfUses wuf = some res) : YM l D cy yX0_sumOfUses hX0_sumOfUses 2 0 0 [.ref w] [[(w, .inr (2, [.ref wu, .ref wm, .int wb, .int wk]))], [(wu, .inr (6, [.ref wun]))], [(wun, .inl (cy 1, 81, .inl wuf))]] (fun v u => v = some (.int res) ∧ u = [[(w, .inr (2, [.ref wu, .ref wm, .int wb, .int wk]))], [(wu, .inr (6, [.ref wun]))], [(wun, .inl (cy 1, 81, .inl wuf))]]) := by
  unfold fX0_sumOfUses at hR
  refine YM.ofI (cc := cX0_sumOfUses) (maxL := 4) (ret := (some .int)) (by decide +kernel) rfl (Nat.le_of_ble_eq_true rfl) [(0, .ref w)] rfl rfl (fun p e s m args below meth c A H0 Q C hnm ret => ?_)
  refine xr_iconst (n := 1) (v := 0) C dd_X0_sumOfUses_0.1 rfl rfl ?_
  refine xr_istore_n (n := 2) C [(1, .int 0), (0, .ref w)] dd_X0_sumOfUses_0.2.1 (by decide) rfl rfl ?_
  refine xr_iconst (n := 3) (v := 0) C dd_X0_sumOfUses_0.2.2.1 rfl rfl ?_
  refine xr_istore_n (n := 4) C [(2, .int 0), (1, .int 0), (0, .ref w)] dd_X0_sumOfUses_0.2.2.2.1 (by decide) rfl rfl ?_
  refine xr_lv (lv' := [(0, .ref w), (1, .int 0), (2, .int 0)]) [2, 1, 0] rfl ?_
  obtain ⟨b_1, hb_1, hR⟩ := yf_b hR
  have K_1 : X p l e (yR 2 0 0) s m args below meth c D A H0 4 Q [[(w, .inr (2, [.ref wu, .ref wm, .int wb, .int wk]))], [(wu, .inr (6, [.ref wun]))], [(wun, .inl (cy 1, 81, .inl wuf))]] 0 0 [(1, .int b_1.1)] 40 [] := by
    refine xr_iload_n (n := 41) (j := 0) C dd_X0_sumOfUses_1.2.2.2.2.2.2.2.2.1 rfl rfl ?_
    obtain rfl := Option.some.inj hR
    exact ret b_1.1 ⟨rfl, rfl⟩ (Nat.le_of_ble_eq_true rfl) (Nat.le_of_ble_eq_true rfl) dd_X0_sumOfUses_1.2.2.2.2.2.2.2.2.2.1
  refine y_loop (P := fun (s_1 : Int32 × Int32) => X p l e (yR 2 0 0) s m args below meth c D A H0 4 Q [[(w, .inr (2, [.ref wu, .ref wm, .int wb, .int wk]))], [(wu, .inr (6, [.ref wun]))], [(wun, .inl (cy 1, 81, .inl wuf))]] 0 0 [(0, .ref w), (1, .int s_1.1), (2, .int s_1.2)] 4 []) ?_ _ (0, 0) hb_1
  intro s_1 o_1 ho_1 hk_1 hx_1
  refine xr_iload_n (n := 5) (j := 2) C dd_X0_sumOfUses_0.2.2.2.2.1 rfl rfl ?_
  refine xr_iconst (n := 6) (v := 5) C dd_X0_sumOfUses_0.2.2.2.2.2.1 rfl rfl ?_
  refine xr_icmp_ge (tgt := 40) (n := 9) C dd_X0_sumOfUses_0.2.2.2.2.2.2.1 rfl rfl (fun c_2 => ?_) (fun c_2 => ?_)
  · replace ho_1 := yf_t c_2 ho_1
    refine xr_lv (lv' := [(1, .int s_1.1)]) [1] rfl ?_
    have e_3 := hx_1 _ (Option.some.inj ho_1).symm
    subst e_3
    exact K_1
  · replace ho_1 := yf_f c_2 ho_1
    refine xr_iconst (n := 10) (v := 0) C dd_X0_sumOfUses_0.2.2.2.2.2.2.2.1 rfl rfl ?_
    refine xr_istore_n (n := 11) C [(3, .int 0), (0, .ref w), (1, .int s_1.1), (2, .int s_1.2)] dd_X0_sumOfUses_0.2.2.2.2.2.2.2.2.1 (by decide) rfl rfl ?_
    refine xr_lv (lv' := [(0, .ref w), (1, .int s_1.1), (2, .int s_1.2), (3, .int 0)]) [1, 2, 3, 0] rfl ?_
    obtain ⟨b_4, hb_4, ho_1⟩ := yf_b ho_1
    have K_4 : X p l e (yR 2 0 0) s m args below meth c D A H0 4 Q [[(w, .inr (2, [.ref wu, .ref wm, .int wb, .int wk]))], [(wu, .inr (6, [.ref wun]))], [(wun, .inl (cy 1, 81, .inl wuf))]] 0 0 [(0, .ref w), (1, .int b_4.1), (2, .int s_1.2)] 34 [] := by
      refine xr_iinc (j := 2) (v := s_1.2 + 1) (n := 37) C [(2, .int (s_1.2 + 1)), (0, .ref w), (1, .int b_4.1)] dd_X0_sumOfUses_1.2.2.2.2.2.2.1 rfl rfl (by decide) rfl rfl ?_
      refine xr_goto (tgt := 4) C dd_X0_sumOfUses_1.2.2.2.2.2.2.2.1 rfl ?_
      refine xr_lv (lv' := [(0, .ref w), (1, .int b_4.1), (2, .int (s_1.2 + 1))]) [1, 2, 0] rfl ?_
      exact hk_1 (b_4.1, s_1.2 + 1) (Option.some.inj ho_1).symm
    refine y_loop (P := fun (s_4 : Int32 × Int32) => X p l e (yR 2 0 0) s m args below meth c D A H0 4 Q [[(w, .inr (2, [.ref wu, .ref wm, .int wb, .int wk]))], [(wu, .inr (6, [.ref wun]))], [(wun, .inl (cy 1, 81, .inl wuf))]] 0 0 [(0, .ref w), (1, .int s_4.1), (2, .int s_1.2), (3, .int s_4.2)] 11 []) ?_ _ (s_1.1, 0) hb_4
    intro s_4 o_4 ho_4 hk_4 hx_4
    refine xr_iload_n (n := 12) (j := 3) C dd_X0_sumOfUses_0.2.2.2.2.2.2.2.2.2.1 rfl rfl ?_
    refine xr_iconst (n := 13) (v := 5) C dd_X0_sumOfUses_0.2.2.2.2.2.2.2.2.2.2.1 rfl rfl ?_
    refine xr_icmp_ge (tgt := 34) (n := 16) C dd_X0_sumOfUses_0.2.2.2.2.2.2.2.2.2.2.2.1 rfl rfl (fun c_5 => ?_) (fun c_5 => ?_)
    · replace ho_4 := yf_t c_5 ho_4
      refine xr_lv (lv' := [(0, .ref w), (1, .int s_4.1), (2, .int s_1.2)]) [0, 1, 2] rfl ?_
      have e_6 := hx_4 _ (Option.some.inj ho_4).symm
      subst e_6
      exact K_4
    · replace ho_4 := yf_f c_5 ho_4
      refine xr_iload_n (n := 17) (j := 1) C dd_X0_sumOfUses_0.2.2.2.2.2.2.2.2.2.2.2.2.1 rfl rfl ?_
      refine xr_aload_n (n := 18) (j := 0) C dd_X0_sumOfUses_0.2.2.2.2.2.2.2.2.2.2.2.2.2.1 rfl rfl ?_
      refine xr_get (n := 21) C 0 rfl rfl 0 (by decide) in_X0 u_147 rfl (v := .ref wu) rfl dd_X0_sumOfUses_0.2.2.2.2.2.2.2.2.2.2.2.2.2.2.1 rfl ?_
      refine xr_iload_n (n := 22) (j := 2) C dd_X0_sumOfUses_0.2.2.2.2.2.2.2.2.2.2.2.2.2.2.2.1 rfl rfl ?_
      refine xr_iload_n (n := 23) (j := 3) C dd_X0_sumOfUses_1.1 rfl rfl ?_
      obtain ⟨x_7, hx_7, ho_4⟩ := yf_b ho_4
      refine xr_callVp (n := 26) (As := [.int s_1.2, .int s_4.2]) (rest := [.int s_4.1]) C (kX4_get l D cy (h := wu) (hn := wun) (hf := wuf) (row := s_1.2) (col := s_4.2) hx_7) mX4_get u_424 u_341 u_342 1 rfl rfl 3 [1, 2] [0] rfl (by decide +kernel) rfl rfl rfl rfl (Nat.le_of_ble_eq_true rfl) (Nat.le_of_ble_eq_true rfl) (Nat.le_of_ble_eq_true rfl) (Nat.le_of_ble_eq_true rfl) (Nat.le_of_ble_eq_true rfl) dd_X0_sumOfUses_1.2.1 rfl (fun _ _ hp => hp.2) (fun v_8 hp_10 => ?_)
      obtain ⟨rfl, -⟩ := hp_10
      refine xr_st (st' := [.int x_7, .int s_4.1]) rfl ?_
      refine xr_iadd (n := 27) C dd_X0_sumOfUses_1.2.2.1 rfl ?_
      refine xr_istore_n (n := 28) C [(1, .int (s_4.1 + x_7)), (0, .ref w), (2, .int s_1.2), (3, .int s_4.2)] dd_X0_sumOfUses_1.2.2.2.1 (by decide) rfl rfl ?_
      refine xr_iinc (j := 3) (v := s_4.2 + 1) (n := 31) C [(3, .int (s_4.2 + 1)), (1, .int (s_4.1 + x_7)), (0, .ref w), (2, .int s_1.2)] dd_X0_sumOfUses_1.2.2.2.2.1 rfl rfl (by decide) rfl rfl ?_
      refine xr_goto (tgt := 11) C dd_X0_sumOfUses_1.2.2.2.2.2.1 rfl ?_
      refine xr_lv (lv' := [(0, .ref w), (1, .int (s_4.1 + x_7)), (2, .int s_1.2), (3, .int (s_4.2 + 1))]) [2, 1, 3, 0] rfl ?_
      exact hk_4 (s_4.1 + x_7, s_4.2 + 1) (Option.some.inj ho_4).symm
theorem dd_X1_rowsInAll_0 : dk_R cX1_rowsInAll [(0, .aload_n 0, 1), (1, .getfield 34, 3), (4, .ifCond .eq 12, 3), (7, .aload_n 0, 1), (8, .getfield 21, 3), (11, .iconst 1, 1), (12, .iadd, 1), (13, .goto 7, 3), (16, .aload_n 0, 1), (17, .getfield 21, 3), (20, .ireturn, 1)] := dk_use _ _ (by decide +kernel)
def fX1_rowsInAll (jr : Int32) (js : Int32) : Option (Int32) := (if js = 0 then some jr else some (jr + 1))
abbrev hX1_rowsInAll : Cond := .code yX1_rowsInAll cX1_rowsInAll 1 (some .int)
theorem mX1_rowsInAll : yM yX1_rowsInAll hX1_rowsInAll 0 := ⟨u_323, u_58, by decide +kernel, by decide +kernel, by decide +kernel⟩
set_option maxHeartbeats 4000000 in
set_option maxRecDepth 100000 in
theorem kX1_rowsInAll (l : Launch) (D : va_G) (cy : Nat → ClassId) (j : Nat) (ja : Nat) (jb : Nat) (jr : Int32) (jk : Int32) (jc : Int32) (jg : Int32) (js : Int32) {res : Int32} (hR : fX1_rowsInAll jr js = some res) : YM l D cy yX1_rowsInAll hX1_rowsInAll 1 0 0 [.ref j] [[(j, .inr (3, [.ref ja, .ref jb, .int jr, .int jk, .int jc, .int jg, .int js]))]] (fun v u => v = some (.int res) ∧ u = [[(j, .inr (3, [.ref ja, .ref jb, .int jr, .int jk, .int jc, .int jg, .int js]))]]) := by
  unfold fX1_rowsInAll at hR
  refine YM.ofI (cc := cX1_rowsInAll) (maxL := 1) (ret := (some .int)) (by decide +kernel) rfl (Nat.le_of_ble_eq_true rfl) [(0, .ref j)] rfl rfl (fun p e s m args below meth c A H0 Q C hnm ret => ?_)
  refine xr_aload_n (n := 1) (j := 0) C dd_X1_rowsInAll_0.1 rfl rfl ?_
  refine xr_get (n := 4) C 0 rfl rfl 6 (by decide) in_X1 u_121 rfl (v := .int js) rfl dd_X1_rowsInAll_0.2.1 rfl ?_
  refine xr_if_eq (tgt := 16) (n := 7) C dd_X1_rowsInAll_0.2.2.1 rfl rfl (fun c_1 => ?_) (fun c_1 => ?_)
  · replace hR := yf_t c_1 hR
    refine xr_aload_n (n := 17) (j := 0) C dd_X1_rowsInAll_0.2.2.2.2.2.2.2.2.1 rfl rfl ?_
    refine xr_get (n := 20) C 0 rfl rfl 2 (by decide) in_X1 u_113 rfl (v := .int jr) rfl dd_X1_rowsInAll_0.2.2.2.2.2.2.2.2.2.1 rfl ?_
    obtain rfl := Option.some.inj hR
    exact ret jr ⟨rfl, rfl⟩ (Nat.le_of_ble_eq_true rfl) (Nat.le_of_ble_eq_true rfl) dd_X1_rowsInAll_0.2.2.2.2.2.2.2.2.2.2.1
  · replace hR := yf_f c_1 hR
    refine xr_aload_n (n := 8) (j := 0) C dd_X1_rowsInAll_0.2.2.2.1 rfl rfl ?_
    refine xr_get (n := 11) C 0 rfl rfl 2 (by decide) in_X1 u_113 rfl (v := .int jr) rfl dd_X1_rowsInAll_0.2.2.2.2.1 rfl ?_
    refine xr_iconst (n := 12) (v := 1) C dd_X1_rowsInAll_0.2.2.2.2.2.1 rfl rfl ?_
    refine xr_iadd (n := 13) C dd_X1_rowsInAll_0.2.2.2.2.2.2.1 rfl ?_
    refine xr_goto (tgt := 20) C dd_X1_rowsInAll_0.2.2.2.2.2.2.2.1 rfl ?_
    obtain rfl := Option.some.inj hR
    exact ret (jr + 1) ⟨rfl, rfl⟩ (Nat.le_of_ble_eq_true rfl) (Nat.le_of_ble_eq_true rfl) dd_X1_rowsInAll_0.2.2.2.2.2.2.2.2.2.2.1
theorem dd_X1_columnsInAll_0 : dk_R cX1_columnsInAll [(0, .aload_n 0, 1), (1, .getfield 34, 3), (4, .ifCond .eq 12, 3), (7, .aload_n 0, 1), (8, .getfield 28, 3), (11, .iconst 1, 1), (12, .iadd, 1), (13, .goto 7, 3), (16, .aload_n 0, 1), (17, .getfield 28, 3), (20, .ireturn, 1)] := dk_use _ _ (by decide +kernel)
def fX1_columnsInAll (jc : Int32) (js : Int32) : Option (Int32) := (if js = 0 then some jc else some (jc + 1))
abbrev hX1_columnsInAll : Cond := .code yX1_columnsInAll cX1_columnsInAll 1 (some .int)
theorem mX1_columnsInAll : yM yX1_columnsInAll hX1_columnsInAll 0 := ⟨u_327, u_58, by decide +kernel, by decide +kernel, by decide +kernel⟩
set_option maxHeartbeats 4000000 in
set_option maxRecDepth 100000 in
theorem kX1_columnsInAll (l : Launch) (D : va_G) (cy : Nat → ClassId) (j : Nat) (ja : Nat) (jb : Nat) (jr : Int32) (jk : Int32) (jc : Int32) (jg : Int32) (js : Int32) {res : Int32} (hR : fX1_columnsInAll jc js = some res) : YM l D cy yX1_columnsInAll hX1_columnsInAll 1 0 0 [.ref j] [[(j, .inr (3, [.ref ja, .ref jb, .int jr, .int jk, .int jc, .int jg, .int js]))]] (fun v u => v = some (.int res) ∧ u = [[(j, .inr (3, [.ref ja, .ref jb, .int jr, .int jk, .int jc, .int jg, .int js]))]]) := by
  unfold fX1_columnsInAll at hR
  refine YM.ofI (cc := cX1_columnsInAll) (maxL := 1) (ret := (some .int)) (by decide +kernel) rfl (Nat.le_of_ble_eq_true rfl) [(0, .ref j)] rfl rfl (fun p e s m args below meth c A H0 Q C hnm ret => ?_)
  refine xr_aload_n (n := 1) (j := 0) C dd_X1_columnsInAll_0.1 rfl rfl ?_
  refine xr_get (n := 4) C 0 rfl rfl 6 (by decide) in_X1 u_121 rfl (v := .int js) rfl dd_X1_columnsInAll_0.2.1 rfl ?_
  refine xr_if_eq (tgt := 16) (n := 7) C dd_X1_columnsInAll_0.2.2.1 rfl rfl (fun c_1 => ?_) (fun c_1 => ?_)
  · replace hR := yf_t c_1 hR
    refine xr_aload_n (n := 17) (j := 0) C dd_X1_columnsInAll_0.2.2.2.2.2.2.2.2.1 rfl rfl ?_
    refine xr_get (n := 20) C 0 rfl rfl 4 (by decide) in_X1 u_117 rfl (v := .int jc) rfl dd_X1_columnsInAll_0.2.2.2.2.2.2.2.2.2.1 rfl ?_
    obtain rfl := Option.some.inj hR
    exact ret jc ⟨rfl, rfl⟩ (Nat.le_of_ble_eq_true rfl) (Nat.le_of_ble_eq_true rfl) dd_X1_columnsInAll_0.2.2.2.2.2.2.2.2.2.2.1
  · replace hR := yf_f c_1 hR
    refine xr_aload_n (n := 8) (j := 0) C dd_X1_columnsInAll_0.2.2.2.1 rfl rfl ?_
    refine xr_get (n := 11) C 0 rfl rfl 4 (by decide) in_X1 u_117 rfl (v := .int jc) rfl dd_X1_columnsInAll_0.2.2.2.2.1 rfl ?_
    refine xr_iconst (n := 12) (v := 1) C dd_X1_columnsInAll_0.2.2.2.2.2.1 rfl rfl ?_
    refine xr_iadd (n := 13) C dd_X1_columnsInAll_0.2.2.2.2.2.2.1 rfl ?_
    refine xr_goto (tgt := 20) C dd_X1_columnsInAll_0.2.2.2.2.2.2.2.1 rfl ?_
    obtain rfl := Option.some.inj hR
    exact ret (jc + 1) ⟨rfl, rfl⟩ (Nat.le_of_ble_eq_true rfl) (Nat.le_of_ble_eq_true rfl) dd_X1_columnsInAll_0.2.2.2.2.2.2.2.2.2.2.1
theorem dd_X1_reshape_0 : dk_R cX1_reshape [(0, .aload_n 0, 1), (1, .iload_n 1, 1), (2, .putfield 21, 3), (5, .aload_n 0, 1), (6, .iload_n 2, 1), (7, .putfield 25, 3), (10, .aload_n 0, 1), (11, .iload_n 3, 1), (12, .putfield 28, 3), (15, .aload_n 0, 1), (16, .getfield 12, 3), (19, .iconst 0, 1), (20, .invokevirtual 38, 3), (23, .aload_n 0, 1), (24, .getfield 18, 3), (27, .iconst 0, 1)] := dk_use _ _ (by decide +kernel)
theorem dd_X1_reshape_1 : dk_R cX1_reshape [(28, .invokevirtual 38, 3), (31, .return_, 1)] := dk_use _ _ (by decide +kernel)
def fX1_reshape (jaf : Nat → Int32) (jbf : Nat → Int32) (i1 : Int32) (i2 : Int32) (i3 : Int32) : Option (Int32 × Int32 × Int32 × (Nat → Int32) × (Nat → Int32)) := ((fX4_fill jaf 0).bind fun x_1 => ((fX4_fill jbf 0).bind fun x_5 => some (i1, i2, i3, x_1, x_5)))
abbrev hX1_reshape : Cond := .code yX1_reshape cX1_reshape 4 none
theorem mX1_reshape : yM yX1_reshape hX1_reshape 3 := ⟨u_646, u_58, by decide +kernel, by decide +kernel, by decide +kernel⟩
set_option maxHeartbeats 4000000 in
set_option maxRecDepth 100000 in
theorem kX1_reshape (l : Launch) (D : va_G) (cy : Nat → ClassId) (j : Nat) (ja : Nat) (jb : Nat) (jr : Int32) (jk : Int32) (jc : Int32) (jg : Int32) (js : Int32) (jan : Nat) (jaf : Nat → Int32) (jbn : Nat) (jbf : Nat → Int32) (i1 : Int32) (i2 : Int32) (i3 : Int32) {res : Int32 × Int32 × Int32 × (Nat → Int32) × (Nat → Int32)} (hR : fX1_reshape jaf jbf i1 i2 i3 = some res) : YM l D cy yX1_reshape hX1_reshape 2 0 0 [.ref j, .int i1, .int i2, .int i3] [[(j, .inr (3, [.ref ja, .ref jb, .int jr, .int jk, .int jc, .int jg, .int js]))], [(ja, .inr (6, [.ref jan]))], [(jan, .inl (cy 1, 81, .inl jaf))], [(jb, .inr (6, [.ref jbn]))], [(jbn, .inl (cy 1, 81, .inl jbf))]] (fun v u => v = none ∧ u = [[(j, .inr (3, [.ref ja, .ref jb, .int res.1, .int res.2.1, .int res.2.2.1, .int jg, .int js]))], [(ja, .inr (6, [.ref jan]))], [(jan, .inl (cy 1, 81, .inl res.2.2.2.1))], [(jb, .inr (6, [.ref jbn]))], [(jbn, .inl (cy 1, 81, .inl res.2.2.2.2))]]) := by
  unfold fX1_reshape at hR
  refine YM.ofV (cc := cX1_reshape) (maxL := 4) (ret := none) (by decide +kernel) rfl (Nat.le_of_ble_eq_true rfl) [(0, .ref j), (1, .int i1), (2, .int i2), (3, .int i3)] rfl rfl (fun p e s m args below meth c A H0 Q C hnm ret => ?_)
  refine xr_aload_n (n := 1) (j := 0) C dd_X1_reshape_0.1 rfl rfl ?_
  refine xr_iload_n (n := 2) (j := 1) C dd_X1_reshape_0.2.1 rfl rfl ?_
  refine xr_put (n := 5) C 0 rfl rfl 2 (by decide) in_X1 tyX1 tyX1_ok nmX1 u_113 rfl rfl rfl rfl (Nat.le_of_ble_eq_true rfl) [[(j, .inr (3, [.ref ja, .ref jb, .int i1, .int jk, .int jc, .int jg, .int js]))], [(ja, .inr (6, [.ref jan]))], [(jan, .inl (cy 1, 81, .inl jaf))], [(jb, .inr (6, [.ref jbn]))], [(jbn, .inl (cy 1, 81, .inl jbf))]] rfl rfl dd_X1_reshape_0.2.2.1 ?_
  refine xr_aload_n (n := 6) (j := 0) C dd_X1_reshape_0.2.2.2.1 rfl rfl ?_
  refine xr_iload_n (n := 7) (j := 2) C dd_X1_reshape_0.2.2.2.2.1 rfl rfl ?_
  refine xr_put (n := 10) C 0 rfl rfl 3 (by decide) in_X1 tyX1 tyX1_ok nmX1 u_115 rfl rfl rfl rfl (Nat.le_of_ble_eq_true rfl) [[(j, .inr (3, [.ref ja, .ref jb, .int i1, .int i2, .int jc, .int jg, .int js]))], [(ja, .inr (6, [.ref jan]))], [(jan, .inl (cy 1, 81, .inl jaf))], [(jb, .inr (6, [.ref jbn]))], [(jbn, .inl (cy 1, 81, .inl jbf))]] rfl rfl dd_X1_reshape_0.2.2.2.2.2.1 ?_
  refine xr_aload_n (n := 11) (j := 0) C dd_X1_reshape_0.2.2.2.2.2.2.1 rfl rfl ?_
  refine xr_iload_n (n := 12) (j := 3) C dd_X1_reshape_0.2.2.2.2.2.2.2.1 rfl rfl ?_
  refine xr_put (n := 15) C 0 rfl rfl 4 (by decide) in_X1 tyX1 tyX1_ok nmX1 u_117 rfl rfl rfl rfl (Nat.le_of_ble_eq_true rfl) [[(j, .inr (3, [.ref ja, .ref jb, .int i1, .int i2, .int i3, .int jg, .int js]))], [(ja, .inr (6, [.ref jan]))], [(jan, .inl (cy 1, 81, .inl jaf))], [(jb, .inr (6, [.ref jbn]))], [(jbn, .inl (cy 1, 81, .inl jbf))]] rfl rfl dd_X1_reshape_0.2.2.2.2.2.2.2.2.1 ?_
  refine xr_aload_n (n := 16) (j := 0) C dd_X1_reshape_0.2.2.2.2.2.2.2.2.2.1 rfl rfl ?_
  refine xr_get (n := 19) C 0 rfl rfl 0 (by decide) in_X1 u_109 rfl (v := .ref ja) rfl dd_X1_reshape_0.2.2.2.2.2.2.2.2.2.2.1 rfl ?_
  refine xr_iconst (n := 20) (v := 0) C dd_X1_reshape_0.2.2.2.2.2.2.2.2.2.2.2.1 rfl rfl ?_
  obtain ⟨x_1, hx_1, hR⟩ := yf_b hR
  refine xr_callV (n := 23) (As := [.int 0]) (rest := []) C (kX4_fill l D cy (h := ja) (hn := jan) (hf := jaf) (num := 0) hx_1) mX4_fill u_647 u_648 u_649 1 rfl rfl 5 [1, 2] [0, 3, 4] rfl (by decide +kernel) rfl rfl rfl rfl (Nat.le_of_ble_eq_true rfl) (Nat.le_of_ble_eq_true rfl) (Nat.le_of_ble_eq_true rfl) (Nat.le_of_ble_eq_true rfl) (Nat.le_of_ble_eq_true rfl) dd_X1_reshape_0.2.2.2.2.2.2.2.2.2.2.2.2.1 rfl (fun v_2 u_3 hp_4 => ?_)
  obtain ⟨rfl, rfl⟩ := hp_4
  refine xr_perm C 5 [2, 0, 1, 3, 4] [] [[(j, .inr (3, [.ref ja, .ref jb, .int i1, .int i2, .int i3, .int jg, .int js]))], [(ja, .inr (6, [.ref jan]))], [(jan, .inl (cy 1, 81, .inl x_1))], [(jb, .inr (6, [.ref jbn]))], [(jbn, .inl (cy 1, 81, .inl jbf))]] rfl (by decide +kernel) rfl ?_
  refine xr_aload_n (n := 24) (j := 0) C dd_X1_reshape_0.2.2.2.2.2.2.2.2.2.2.2.2.2.1 rfl rfl ?_
  refine xr_get (n := 27) C 0 rfl rfl 1 (by decide) in_X1 u_111 rfl (v := .ref jb) rfl dd_X1_reshape_0.2.2.2.2.2.2.2.2.2.2.2.2.2.2.1 rfl ?_
  refine xr_iconst (n := 28) (v := 0) C dd_X1_reshape_0.2.2.2.2.2.2.2.2.2.2.2.2.2.2.2.1 rfl rfl ?_
  obtain ⟨x_5, hx_5, hR⟩ := yf_b hR
  refine xr_callV (n := 31) (As := [.int 0]) (rest := []) C (kX4_fill l D cy (h := jb) (hn := jbn) (hf := jbf) (num := 0) hx_5) mX4_fill u_647 u_648 u_649 3 rfl rfl 5 [3, 4] [0, 1, 2] rfl (by decide +kernel) rfl rfl rfl rfl (Nat.le_of_ble_eq_true rfl) (Nat.le_of_ble_eq_true rfl) (Nat.le_of_ble_eq_true rfl) (Nat.le_of_ble_eq_true rfl) (Nat.le_of_ble_eq_true rfl) dd_X1_reshape_1.1 rfl (fun v_6 u_7 hp_8 => ?_)
  obtain ⟨rfl, rfl⟩ := hp_8
  refine xr_perm C 5 [2, 3, 4, 0, 1] [] [[(j, .inr (3, [.ref ja, .ref jb, .int i1, .int i2, .int i3, .int jg, .int js]))], [(ja, .inr (6, [.ref jan]))], [(jan, .inl (cy 1, 81, .inl x_1))], [(jb, .inr (6, [.ref jbn]))], [(jbn, .inl (cy 1, 81, .inl x_5))]] rfl (by decide +kernel) rfl ?_
  obtain rfl := Option.some.inj hR
  exact ret ⟨rfl, rfl⟩ (Nat.le_of_ble_eq_true rfl) (Nat.le_of_ble_eq_true rfl) dd_X1_reshape_1.2.1
