theorem u_489 : Cond.methodLink RX0 28 yX0_bitOf ∈ yU := yu_tables_1_2 193 (by decide +kernel) (by decide +kernel)
theorem u_490 : Cond.static yX0_bitOf ∈ yU := yu_tables_1_2 194 (by decide +kernel) (by decide +kernel)
theorem u_152 : Cond.fieldLink RX0 21 "Pulsemesh$Cells" "brokenSet" "I" ∈ yU := yu_tables_1_1 96 (by decide +kernel) (by decide +kernel)
theorem u_154 : Cond.fieldLink RX0 25 "Pulsemesh$Cells" "knownSet" "I" ∈ yU := yu_tables_1_1 98 (by decide +kernel) (by decide +kernel)
theorem u_737 : Cond.code yX0_mark cX0_mark 5 none ∈ yU := yu_tables_1_3 201 (by decide +kernel) (by decide +kernel)
theorem u_488 : Cond.code yX0_isBrokenAt cX0_isBrokenAt 3 (some .boolean) ∈ yU := yu_tables_1_2 192 (by decide +kernel) (by decide +kernel)
theorem u_485 : Cond.methodLink RX0 32 yX0_isBrokenAt ∈ yU := yu_tables_1_2 189 (by decide +kernel) (by decide +kernel)
theorem u_486 : Cond.instanceMethod yX0_isBrokenAt ∈ yU := yu_tables_1_2 190 (by decide +kernel) (by decide +kernel)
theorem u_487 : Cond.selects RX0 yX0_isBrokenAt yX0_isBrokenAt ∈ yU := yu_tables_1_2 191 (by decide +kernel) (by decide +kernel)
theorem u_484 : Cond.code yX0_stateOf cX0_stateOf 3 (some .int) ∈ yU := yu_tables_1_2 188 (by decide +kernel) (by decide +kernel)
theorem u_750 : Cond.methodLink RX0 36 yJ6_bitCount_0f7a4 ∈ yU := yu_tables_1_3 214 (by decide +kernel) (by decide +kernel)
theorem u_349 : Cond.static yJ6_bitCount_0f7a4 ∈ yU := yu_tables_1_2 53 (by decide +kernel) (by decide +kernel)
theorem u_749 : Cond.code yX0_findBroken cX0_findBroken 2 (some .int) ∈ yU := yu_tables_1_3 213 (by decide +kernel) (by decide +kernel)
theorem u_415 : Cond.code yX0_areKnownBroken cX0_areKnownBroken 1 (some .boolean) ∈ yU := yu_tables_1_2 119 (by decide +kernel) (by decide +kernel)
theorem u_373 : Cond.code yX0_knownColumns cX0_knownColumns 4 (some .int) ∈ yU := yu_tables_1_2 77 (by decide +kernel) (by decide +kernel)
theorem dd_X0_mark_0 : dk_R cX0_mark [(0, .iload_n 1, 1), (1, .iload_n 2, 1), (2, .invokestatic 28, 3), (5, .istore 4, 2), (7, .iload_n 3, 1), (8, .ifCond .eq 17, 3), (11, .aload_n 0, 1), (12, .dup, 1), (13, .getfield 21, 3), (16, .iload 4, 2), (18, .ior, 1), (19, .putfield 21, 3), (22, .goto 29, 3), (25, .aload_n 0, 1), (26, .dup, 1), (27, .getfield 21, 3)] := dk_use _ _ (by decide +kernel)
theorem dd_X0_mark_1 : dk_R cX0_mark [(30, .iload 4, 2), (32, .iconst (-1), 1), (33, .ixor, 1), (34, .iand, 1), (35, .putfield 21, 3), (38, .aload_n 0, 1), (39, .dup, 1), (40, .getfield 25, 3), (43, .iload 4, 2), (45, .iconst (-1), 1), (46, .ixor, 1), (47, .iand, 1), (48, .putfield 25, 3), (51, .return_, 1)] := dk_use _ _ (by decide +kernel)
def fX0_mark (wb : Int32) (wk : Int32) (i1 : Int32) (i2 : Int32) (isb : Int32) : Option (Int32 × Int32) := ((fX0_bitOf i1 i2).bind fun x_1 => (if isb = 0 then some (wb &&& (x_1 ^^^ (-1)), wk &&& (x_1 ^^^ (-1))) else some (wb ||| x_1, wk)))
abbrev hX0_mark : Cond := .code yX0_mark cX0_mark 5 none
theorem mX0_mark : yM yX0_mark hX0_mark 3 := ⟨u_737, u_60, by decide +kernel, by decide +kernel, by decide +kernel⟩
set_option maxHeartbeats 4000000 in
set_option maxRecDepth 100000 in
theorem kX0_mark (l : Launch) (D : va_G) (cy : Nat → ClassId) (w : Nat) (wu : Nat) (wm : Nat) (wb : Int32) (wk : Int32) (i1 : Int32) (i2 : Int32) (isb : Int32) {res : Int32 × Int32} (hR : fX0_mark wb wk i1 i2 isb = some res) : YM l D cy yX0_mark hX0_mark 2 0 0 [.ref w, .int i1, .int i2, .int isb] [[(w, .inr (2, [.ref wu, .ref wm, .int wb, .int wk]))]] (fun v u => v = none ∧ u = [[(w, .inr (2, [.ref wu, .ref wm, .int res.1, .int res.2]))]]) := by
  unfold fX0_mark at hR
  refine YM.ofV (cc := cX0_mark) (maxL := 5) (ret := none) (by decide +kernel) rfl (Nat.le_of_ble_eq_true rfl) [(0, .ref w), (1, .int i1), (2, .int i2), (3, .int isb)] rfl rfl (fun p e s m args below meth c A H0 Q C hnm ret => ?_)
  refine xr_iload_n (n := 1) (j := 1) C dd_X0_mark_0.1 rfl rfl ?_
  refine xr_iload_n (n := 2) (j := 2) C dd_X0_mark_0.2.1 rfl rfl ?_
  obtain ⟨x_1, hx_1, hR⟩ := yf_b hR
  refine xr_callSp (n := 5) (As := [.int i1, .int i2]) (rest := []) C (kX0_bitOf l D cy (i1 := i1) (i2 := i2) hx_1) mX0_bitOf u_489 u_490 1 [] [0] rfl (by decide +kernel) rfl rfl rfl rfl (Nat.le_of_ble_eq_true rfl) (Nat.le_of_ble_eq_true rfl) (Nat.le_of_ble_eq_true rfl) (Nat.le_of_ble_eq_true rfl) (Nat.le_of_ble_eq_true rfl) dd_X0_mark_0.2.2.1 rfl (fun _ _ hp => hp.2) (fun v_2 hp_4 => ?_)
  obtain ⟨rfl, -⟩ := hp_4
  refine xr_st (st' := [.int x_1]) rfl ?_
  refine xr_istore (n := 7) C [(4, .int x_1), (0, .ref w), (1, .int i1), (2, .int i2), (3, .int isb)] dd_X0_mark_0.2.2.2.1 (by decide) rfl rfl ?_
  refine xr_iload_n (n := 8) (j := 4) C dd_X0_mark_0.2.2.2.2.1 rfl rfl ?_
  refine xr_if_eq (tgt := 25) (n := 11) C dd_X0_mark_0.2.2.2.2.2.1 rfl rfl (fun c_5 => ?_) (fun c_5 => ?_)
  · replace hR := yf_t c_5 hR
    refine xr_aload_n (n := 26) (j := 1) C dd_X0_mark_0.2.2.2.2.2.2.2.2.2.2.2.2.2.1 rfl rfl ?_
    refine xr_dup (n := 27) C dd_X0_mark_0.2.2.2.2.2.2.2.2.2.2.2.2.2.2.1 rfl rfl ?_
    refine xr_get (n := 30) C 0 rfl rfl 2 (by decide) in_X0 u_152 rfl (v := .int wb) rfl dd_X0_mark_0.2.2.2.2.2.2.2.2.2.2.2.2.2.2.2.1 rfl ?_
    refine xr_iload (n := 32) (j := 0) C dd_X0_mark_1.1 rfl rfl ?_
    refine xr_iconst (n := 33) (v := -1) C dd_X0_mark_1.2.1 rfl rfl ?_
    refine xr_ixor (n := 34) C dd_X0_mark_1.2.2.1 rfl ?_
    refine xr_iand (n := 35) C dd_X0_mark_1.2.2.2.1 rfl ?_
    refine xr_put (n := 38) C 0 rfl rfl 2 (by decide) in_X0 tyX0 tyX0_ok nmX0 u_152 rfl rfl rfl rfl (Nat.le_of_ble_eq_true rfl) [[(w, .inr (2, [.ref wu, .ref wm, .int (wb &&& (x_1 ^^^ (-1))), .int wk]))]] rfl rfl dd_X0_mark_1.2.2.2.2.1 ?_
    refine xr_aload_n (n := 39) (j := 1) C dd_X0_mark_1.2.2.2.2.2.1 rfl rfl ?_
    refine xr_dup (n := 40) C dd_X0_mark_1.2.2.2.2.2.2.1 rfl rfl ?_
    refine xr_get (n := 43) C 0 rfl rfl 3 (by decide) in_X0 u_154 rfl (v := .int wk) rfl dd_X0_mark_1.2.2.2.2.2.2.2.1 rfl ?_
    refine xr_iload (n := 45) (j := 0) C dd_X0_mark_1.2.2.2.2.2.2.2.2.1 rfl rfl ?_
    refine xr_iconst (n := 46) (v := -1) C dd_X0_mark_1.2.2.2.2.2.2.2.2.2.1 rfl rfl ?_
    refine xr_ixor (n := 47) C dd_X0_mark_1.2.2.2.2.2.2.2.2.2.2.1 rfl ?_
    refine xr_iand (n := 48) C dd_X0_mark_1.2.2.2.2.2.2.2.2.2.2.2.1 rfl ?_
    refine xr_put (n := 51) C 0 rfl rfl 3 (by decide) in_X0 tyX0 tyX0_ok nmX0 u_154 rfl rfl rfl rfl (Nat.le_of_ble_eq_true rfl) [[(w, .inr (2, [.ref wu, .ref wm, .int (wb &&& (x_1 ^^^ (-1))), .int (wk &&& (x_1 ^^^ (-1)))]))]] rfl rfl dd_X0_mark_1.2.2.2.2.2.2.2.2.2.2.2.2.1 ?_
    obtain rfl := Option.some.inj hR
    exact ret ⟨rfl, rfl⟩ (Nat.le_of_ble_eq_true rfl) (Nat.le_of_ble_eq_true rfl) dd_X0_mark_1.2.2.2.2.2.2.2.2.2.2.2.2.2.1
  · replace hR := yf_f c_5 hR
    refine xr_aload_n (n := 12) (j := 1) C dd_X0_mark_0.2.2.2.2.2.2.1 rfl rfl ?_
    refine xr_dup (n := 13) C dd_X0_mark_0.2.2.2.2.2.2.2.1 rfl rfl ?_
    refine xr_get (n := 16) C 0 rfl rfl 2 (by decide) in_X0 u_152 rfl (v := .int wb) rfl dd_X0_mark_0.2.2.2.2.2.2.2.2.1 rfl ?_
    refine xr_iload (n := 18) (j := 0) C dd_X0_mark_0.2.2.2.2.2.2.2.2.2.1 rfl rfl ?_
    refine xr_ior (n := 19) C dd_X0_mark_0.2.2.2.2.2.2.2.2.2.2.1 rfl ?_
    refine xr_put (n := 22) C 0 rfl rfl 2 (by decide) in_X0 tyX0 tyX0_ok nmX0 u_152 rfl rfl rfl rfl (Nat.le_of_ble_eq_true rfl) [[(w, .inr (2, [.ref wu, .ref wm, .int (wb ||| x_1), .int wk]))]] rfl rfl dd_X0_mark_0.2.2.2.2.2.2.2.2.2.2.2.1 ?_
    refine xr_goto (tgt := 51) C dd_X0_mark_0.2.2.2.2.2.2.2.2.2.2.2.2.1 rfl ?_
    obtain rfl := Option.some.inj hR
    exact ret ⟨rfl, rfl⟩ (Nat.le_of_ble_eq_true rfl) (Nat.le_of_ble_eq_true rfl) dd_X0_mark_1.2.2.2.2.2.2.2.2.2.2.2.2.2.1
theorem dd_X0_isBrokenAt_0 : dk_R cX0_isBrokenAt [(0, .aload_n 0, 1), (1, .getfield 21, 3), (4, .iload_n 1, 1), (5, .iload_n 2, 1), (6, .invokestatic 28, 3), (9, .iand, 1), (10, .ifCond .eq 7, 3), (13, .iconst 1, 1), (14, .goto 4, 3), (17, .iconst 0, 1), (18, .ireturn, 1)] := dk_use _ _ (by decide +kernel)
def fX0_isBrokenAt (wb : Int32) (i1 : Int32) (i2 : Int32) : Option (Int32) := ((fX0_bitOf i1 i2).bind fun x_1 => (if (wb &&& x_1) = 0 then some 0 else some 1))
abbrev hX0_isBrokenAt : Cond := .code yX0_isBrokenAt cX0_isBrokenAt 3 (some .boolean)
theorem mX0_isBrokenAt : yM yX0_isBrokenAt hX0_isBrokenAt 2 := ⟨u_488, u_60, by decide +kernel, by decide +kernel, by decide +kernel⟩
set_option maxHeartbeats 4000000 in
set_option maxRecDepth 100000 in
theorem kX0_isBrokenAt (l : Launch) (D : va_G) (cy : Nat → ClassId) (w : Nat) (wu : Nat) (wm : Nat) (wb : Int32) (wk : Int32) (i1 : Int32) (i2 : Int32) {res : Int32} (hR : fX0_isBrokenAt wb i1 i2 = some res) : YM l D cy yX0_isBrokenAt hX0_isBrokenAt 2 0 0 [.ref w, .int i1, .int i2] [[(w, .inr (2, [.ref wu, .ref wm, .int wb, .int wk]))]] (fun v u => v = some (.int res) ∧ u = [[(w, .inr (2, [.ref wu, .ref wm, .int wb, .int wk]))]]) := by
  unfold fX0_isBrokenAt at hR
  refine YM.ofZ (cc := cX0_isBrokenAt) (maxL := 3) (ret := (some .boolean)) (by decide +kernel) rfl (Nat.le_of_ble_eq_true rfl) [(0, .ref w), (1, .int i1), (2, .int i2)] rfl .boolean rfl (fun p e s m args below meth c A H0 Q C hnm ret => ?_)
  refine xr_aload_n (n := 1) (j := 0) C dd_X0_isBrokenAt_0.1 rfl rfl ?_
  refine xr_get (n := 4) C 0 rfl rfl 2 (by decide) in_X0 u_152 rfl (v := .int wb) rfl dd_X0_isBrokenAt_0.2.1 rfl ?_
  refine xr_iload_n (n := 5) (j := 1) C dd_X0_isBrokenAt_0.2.2.1 rfl rfl ?_
  refine xr_iload_n (n := 6) (j := 2) C dd_X0_isBrokenAt_0.2.2.2.1 rfl rfl ?_
  obtain ⟨x_1, hx_1, hR⟩ := yf_b hR
  refine xr_callSp (n := 9) (As := [.int i1, .int i2]) (rest := [.int wb]) C (kX0_bitOf l D cy (i1 := i1) (i2 := i2) hx_1) mX0_bitOf u_489 u_490 1 [] [0] rfl (by decide +kernel) rfl rfl rfl rfl (Nat.le_of_ble_eq_true rfl) (Nat.le_of_ble_eq_true rfl) (Nat.le_of_ble_eq_true rfl) (Nat.le_of_ble_eq_true rfl) (Nat.le_of_ble_eq_true rfl) dd_X0_isBrokenAt_0.2.2.2.2.1 rfl (fun _ _ hp => hp.2) (fun v_2 hp_4 => ?_)
  obtain ⟨rfl, -⟩ := hp_4
  refine xr_st (st' := [.int x_1, .int wb]) rfl ?_
  refine xr_iand (n := 10) C dd_X0_isBrokenAt_0.2.2.2.2.2.1 rfl ?_
  refine xr_if_eq (tgt := 17) (n := 13) C dd_X0_isBrokenAt_0.2.2.2.2.2.2.1 rfl rfl (fun c_5 => ?_) (fun c_5 => ?_)
  · replace hR := yf_t c_5 hR
    refine xr_iconst (n := 18) (v := 0) C dd_X0_isBrokenAt_0.2.2.2.2.2.2.2.2.2.1 rfl rfl ?_
    obtain rfl := Option.some.inj hR
    exact ret 0 (by decide) ⟨rfl, rfl⟩ (Nat.le_of_ble_eq_true rfl) (Nat.le_of_ble_eq_true rfl) dd_X0_isBrokenAt_0.2.2.2.2.2.2.2.2.2.2.1
  · replace hR := yf_f c_5 hR
    refine xr_iconst (n := 14) (v := 1) C dd_X0_isBrokenAt_0.2.2.2.2.2.2.2.1 rfl rfl ?_
    refine xr_goto (tgt := 18) C dd_X0_isBrokenAt_0.2.2.2.2.2.2.2.2.1 rfl ?_
    obtain rfl := Option.some.inj hR
    exact ret 1 (by decide) ⟨rfl, rfl⟩ (Nat.le_of_ble_eq_true rfl) (Nat.le_of_ble_eq_true rfl) dd_X0_isBrokenAt_0.2.2.2.2.2.2.2.2.2.2.1
theorem dd_X0_stateOf_0 : dk_R cX0_stateOf [(0, .aload_n 0, 1), (1, .iload_n 1, 1), (2, .iload_n 2, 1), (3, .invokevirtual 32, 3), (6, .ifCond .ne 5, 3), (9, .iconst 0, 1), (10, .ireturn, 1), (11, .aload_n 0, 1), (12, .getfield 25, 3), (15, .iload_n 1, 1), (16, .iload_n 2, 1), (17, .invokestatic 28, 3), (20, .iand, 1), (21, .ifCond .eq 7, 3), (24, .iconst 2, 1), (25, .goto 4, 3)] := dk_use _ _ (by decide +kernel)
theorem dd_X0_stateOf_1 : dk_R cX0_stateOf [(28, .iconst 1, 1), (29, .ireturn, 1)] := dk_use _ _ (by decide +kernel)
def fX0_stateOf (wb : Int32) (wk : Int32) (i1 : Int32) (i2 : Int32) : Option (Int32) := ((fX0_isBrokenAt wb i1 i2).bind fun x_1 => (if x_1 = 0 then some 0 else ((fX0_bitOf i1 i2).bind fun x_6 => (if (wk &&& x_6) = 0 then some 1 else some 2))))
abbrev hX0_stateOf : Cond := .code yX0_stateOf cX0_stateOf 3 (some .int)
theorem mX0_stateOf : yM yX0_stateOf hX0_stateOf 2 := ⟨u_484, u_60, by decide +kernel, by decide +kernel, by decide +kernel⟩
set_option maxHeartbeats 4000000 in
set_option maxRecDepth 100000 in
theorem kX0_stateOf (l : Launch) (D : va_G) (cy : Nat → ClassId) (w : Nat) (wu : Nat) (wm : Nat) (wb : Int32) (wk : Int32) (i1 : Int32) (i2 : Int32) {res : Int32} (hR : fX0_stateOf wb wk i1 i2 = some res) : YM l D cy yX0_stateOf hX0_stateOf 3 0 0 [.ref w, .int i1, .int i2] [[(w, .inr (2, [.ref wu, .ref wm, .int wb, .int wk]))]] (fun v u => v = some (.int res) ∧ u = [[(w, .inr (2, [.ref wu, .ref wm, .int wb, .int wk]))]]) := by
  unfold fX0_stateOf at hR
  refine YM.ofI (cc := cX0_stateOf) (maxL := 3) (ret := (some .int)) (by decide +kernel) rfl (Nat.le_of_ble_eq_true rfl) [(0, .ref w), (1, .int i1), (2, .int i2)] rfl rfl (fun p e s m args below meth c A H0 Q C hnm ret => ?_)
  refine xr_aload_n (n := 1) (j := 0) C dd_X0_stateOf_0.1 rfl rfl ?_
  refine xr_iload_n (n := 2) (j := 1) C dd_X0_stateOf_0.2.1 rfl rfl ?_
  refine xr_iload_n (n := 3) (j := 2) C dd_X0_stateOf_0.2.2.1 rfl rfl ?_
  obtain ⟨x_1, hx_1, hR⟩ := yf_b hR
  refine xr_callVp (n := 6) (As := [.int i1, .int i2]) (rest := []) C (kX0_isBrokenAt l D cy (w := w) (wu := wu) (wm := wm) (wb := wb) (wk := wk) (i1 := i1) (i2 := i2) hx_1) mX0_isBrokenAt u_485 u_486 u_487 0 rfl rfl 1 [0] [] rfl (by decide +kernel) rfl rfl rfl rfl (Nat.le_of_ble_eq_true rfl) (Nat.le_of_ble_eq_true rfl) (Nat.le_of_ble_eq_true rfl) (Nat.le_of_ble_eq_true rfl) (Nat.le_of_ble_eq_true rfl) dd_X0_stateOf_0.2.2.2.1 rfl (fun _ _ hp => hp.2) (fun v_2 hp_4 => ?_)
  obtain ⟨rfl, -⟩ := hp_4
  refine xr_st (st' := [.int x_1]) rfl ?_
  refine xr_if_ne (tgt := 11) (n := 9) C dd_X0_stateOf_0.2.2.2.2.1 rfl rfl (fun c_5 => ?_) (fun c_5 => ?_)
  · replace hR := yf_f c_5 hR
    refine xr_aload_n (n := 12) (j := 0) C dd_X0_stateOf_0.2.2.2.2.2.2.2.1 rfl rfl ?_
    refine xr_get (n := 15) C 0 rfl rfl 3 (by decide) in_X0 u_154 rfl (v := .int wk) rfl dd_X0_stateOf_0.2.2.2.2.2.2.2.2.1 rfl ?_
    refine xr_iload_n (n := 16) (j := 1) C dd_X0_stateOf_0.2.2.2.2.2.2.2.2.2.1 rfl rfl ?_
    refine xr_iload_n (n := 17) (j := 2) C dd_X0_stateOf_0.2.2.2.2.2.2.2.2.2.2.1 rfl rfl ?_
    obtain ⟨x_6, hx_6, hR⟩ := yf_b hR
    refine xr_callSp (n := 20) (As := [.int i1, .int i2]) (rest := [.int wk]) C (kX0_bitOf l D cy (i1 := i1) (i2 := i2) hx_6) mX0_bitOf u_489 u_490 1 [] [0] rfl (by decide +kernel) rfl rfl rfl rfl (Nat.le_of_ble_eq_true rfl) (Nat.le_of_ble_eq_true rfl) (Nat.le_of_ble_eq_true rfl) (Nat.le_of_ble_eq_true rfl) (Nat.le_of_ble_eq_true rfl) dd_X0_stateOf_0.2.2.2.2.2.2.2.2.2.2.2.1 rfl (fun _ _ hp => hp.2) (fun v_7 hp_9 => ?_)
    obtain ⟨rfl, -⟩ := hp_9
    refine xr_st (st' := [.int x_6, .int wk]) rfl ?_
    refine xr_iand (n := 21) C dd_X0_stateOf_0.2.2.2.2.2.2.2.2.2.2.2.2.1 rfl ?_
    refine xr_if_eq (tgt := 28) (n := 24) C dd_X0_stateOf_0.2.2.2.2.2.2.2.2.2.2.2.2.2.1 rfl rfl (fun c_10 => ?_) (fun c_10 => ?_)
    · replace hR := yf_t c_10 hR
      refine xr_iconst (n := 29) (v := 1) C dd_X0_stateOf_1.1 rfl rfl ?_
      obtain rfl := Option.some.inj hR
      exact ret 1 ⟨rfl, rfl⟩ (Nat.le_of_ble_eq_true rfl) (Nat.le_of_ble_eq_true rfl) dd_X0_stateOf_1.2.1
    · replace hR := yf_f c_10 hR
      refine xr_iconst (n := 25) (v := 2) C dd_X0_stateOf_0.2.2.2.2.2.2.2.2.2.2.2.2.2.2.1 rfl rfl ?_
      refine xr_goto (tgt := 29) C dd_X0_stateOf_0.2.2.2.2.2.2.2.2.2.2.2.2.2.2.2.1 rfl ?_
      obtain rfl := Option.some.inj hR
      exact ret 2 ⟨rfl, rfl⟩ (Nat.le_of_ble_eq_true rfl) (Nat.le_of_ble_eq_true rfl) dd_X0_stateOf_1.2.1
  · replace hR := yf_t c_5 hR
    refine xr_iconst (n := 10) (v := 0) C dd_X0_stateOf_0.2.2.2.2.2.1 rfl rfl ?_
    obtain rfl := Option.some.inj hR
    exact ret 0 ⟨rfl, rfl⟩ (Nat.le_of_ble_eq_true rfl) (Nat.le_of_ble_eq_true rfl) dd_X0_stateOf_0.2.2.2.2.2.2.1
theorem dd_X0_findBroken_0 : dk_R cX0_findBroken [(0, .aload_n 0, 1), (1, .getfield 21, 3), (4, .aload_n 0, 1), (5, .getfield 25, 3), (8, .iconst (-1), 1), (9, .ixor, 1), (10, .iand, 1), (11, .invokestatic 36, 3), (14, .istore_n 1, 1), (15, .aload_n 0, 1), (16, .aload_n 0, 1), (17, .getfield 21, 3), (20, .putfield 25, 3), (23, .iload_n 1, 1), (24, .ireturn, 1)] := dk_use _ _ (by decide +kernel)
def fX0_findBroken (wb : Int32) (wk : Int32) : Option (Int32 × Int32) := ((fJ6_bitCount_0f7a4 (wb &&& (wk ^^^ (-1)))).bind fun x_1 => some (x_1, wb))
abbrev hX0_findBroken : Cond := .code yX0_findBroken cX0_findBroken 2 (some .int)
theorem mX0_findBroken : yM yX0_findBroken hX0_findBroken 0 := ⟨u_749, u_60, by decide +kernel, by decide +kernel, by decide +kernel⟩
set_option maxHeartbeats 4000000 in
set_option maxRecDepth 100000 in
theorem kX0_findBroken (l : Launch) (D : va_G) (cy : Nat → ClassId) (w : Nat) (wu : Nat) (wm : Nat) (wb : Int32) (wk : Int32) {res : Int32 × Int32} (hR : fX0_findBroken wb wk = some res) : YM l D cy yX0_findBroken hX0_findBroken 2 0 0 [.ref w] [[(w, .inr (2, [.ref wu, .ref wm, .int wb, .int wk]))]] (fun v u => v = some (.int res.1) ∧ u = [[(w, .inr (2, [.ref wu, .ref wm, .int wb, .int res.2]))]]) := by
  unfold fX0_findBroken at hR
  refine YM.ofI (cc := cX0_findBroken) (maxL := 2) (ret := (some .int)) (by decide +kernel) rfl (Nat.le_of_ble_eq_true rfl) [(0, .ref w)] rfl rfl (fun p e s m args below meth c A H0 Q C hnm ret => ?_)
  refine xr_aload_n (n := 1) (j := 0) C dd_X0_findBroken_0.1 rfl rfl ?_
  refine xr_get (n := 4) C 0 rfl rfl 2 (by decide) in_X0 u_152 rfl (v := .int wb) rfl dd_X0_findBroken_0.2.1 rfl ?_
  refine xr_aload_n (n := 5) (j := 0) C dd_X0_findBroken_0.2.2.1 rfl rfl ?_
  refine xr_get (n := 8) C 0 rfl rfl 3 (by decide) in_X0 u_154 rfl (v := .int wk) rfl dd_X0_findBroken_0.2.2.2.1 rfl ?_
  refine xr_iconst (n := 9) (v := -1) C dd_X0_findBroken_0.2.2.2.2.1 rfl rfl ?_
  refine xr_ixor (n := 10) C dd_X0_findBroken_0.2.2.2.2.2.1 rfl ?_
  refine xr_iand (n := 11) C dd_X0_findBroken_0.2.2.2.2.2.2.1 rfl ?_
  obtain ⟨x_1, hx_1, hR⟩ := yf_b hR
  refine xr_callSp (n := 14) (As := [.int (wb &&& (wk ^^^ (-1)))]) (rest := []) C (kJ6_bitCount_0f7a4 l D cy (i1 := wb &&& (wk ^^^ (-1))) hx_1) mJ6_bitCount_0f7a4 u_750 u_349 1 [] [0] rfl (by decide +kernel) rfl rfl rfl rfl (Nat.le_of_ble_eq_true rfl) (Nat.le_of_ble_eq_true rfl) (Nat.le_of_ble_eq_true rfl) (Nat.le_of_ble_eq_true rfl) (Nat.le_of_ble_eq_true rfl) dd_X0_findBroken_0.2.2.2.2.2.2.2.1 rfl (fun _ _ hp => hp.2) (fun v_2 hp_4 => ?_)
  obtain ⟨rfl, -⟩ := hp_4
  refine xr_st (st' := [.int x_1]) rfl ?_
  refine xr_istore_n (n := 15) C [(1, .int x_1), (0, .ref w)] dd_X0_findBroken_0.2.2.2.2.2.2.2.2.1 (by decide) rfl rfl ?_
  refine xr_aload_n (n := 16) (j := 1) C dd_X0_findBroken_0.2.2.2.2.2.2.2.2.2.1 rfl rfl ?_
  refine xr_aload_n (n := 17) (j := 1) C dd_X0_findBroken_0.2.2.2.2.2.2.2.2.2.2.1 rfl rfl ?_
  refine xr_get (n := 20) C 0 rfl rfl 2 (by decide) in_X0 u_152 rfl (v := .int wb) rfl dd_X0_findBroken_0.2.2.2.2.2.2.2.2.2.2.2.1 rfl ?_
  refine xr_put (n := 23) C 0 rfl rfl 3 (by decide) in_X0 tyX0 tyX0_ok nmX0 u_154 rfl rfl rfl rfl (Nat.le_of_ble_eq_true rfl) [[(w, .inr (2, [.ref wu, .ref wm, .int wb, .int wb]))]] rfl rfl dd_X0_findBroken_0.2.2.2.2.2.2.2.2.2.2.2.2.1 ?_
  refine xr_iload_n (n := 24) (j := 0) C dd_X0_findBroken_0.2.2.2.2.2.2.2.2.2.2.2.2.2.1 rfl rfl ?_
  obtain rfl := Option.some.inj hR
  exact ret x_1 ⟨rfl, rfl⟩ (Nat.le_of_ble_eq_true rfl) (Nat.le_of_ble_eq_true rfl) dd_X0_findBroken_0.2.2.2.2.2.2.2.2.2.2.2.2.2.2.1
theorem dd_X0_areKnownBroken_0 : dk_R cX0_areKnownBroken [(0, .aload_n 0, 1), (1, .getfield 25, 3), (4, .aload_n 0, 1), (5, .getfield 21, 3), (8, .iconst (-1), 1), (9, .ixor, 1), (10, .iand, 1), (11, .ifCond .ne 7, 3), (14, .iconst 1, 1), (15, .goto 4, 3), (18, .iconst 0, 1), (19, .ireturn, 1)] := dk_use _ _ (by decide +kernel)
def fX0_areKnownBroken (wb : Int32) (wk : Int32) : Option (Int32) := (if (wk &&& (wb ^^^ (-1))) = 0 then some 1 else some 0)
abbrev hX0_areKnownBroken : Cond := .code yX0_areKnownBroken cX0_areKnownBroken 1 (some .boolean)
theorem mX0_areKnownBroken : yM yX0_areKnownBroken hX0_areKnownBroken 0 := ⟨u_415, u_60, by decide +kernel, by decide +kernel, by decide +kernel⟩
set_option maxHeartbeats 4000000 in
set_option maxRecDepth 100000 in
theorem kX0_areKnownBroken (l : Launch) (D : va_G) (cy : Nat → ClassId) (w : Nat) (wu : Nat) (wm : Nat) (wb : Int32) (wk : Int32) {res : Int32} (hR : fX0_areKnownBroken wb wk = some res) : YM l D cy yX0_areKnownBroken hX0_areKnownBroken 1 0 0 [.ref w] [[(w, .inr (2, [.ref wu, .ref wm, .int wb, .int wk]))]] (fun v u => v = some (.int res) ∧ u = [[(w, .inr (2, [.ref wu, .ref wm, .int wb, .int wk]))]]) := by
  unfold fX0_areKnownBroken at hR
  refine YM.ofZ (cc := cX0_areKnownBroken) (maxL := 1) (ret := (some .boolean)) (by decide +kernel) rfl (Nat.le_of_ble_eq_true rfl) [(0, .ref w)] rfl .boolean rfl (fun p e s m args below meth c A H0 Q C hnm ret => ?_)
  refine xr_aload_n (n := 1) (j := 0) C dd_X0_areKnownBroken_0.1 rfl rfl ?_
  refine xr_get (n := 4) C 0 rfl rfl 3 (by decide) in_X0 u_154 rfl (v := .int wk) rfl dd_X0_areKnownBroken_0.2.1 rfl ?_
  refine xr_aload_n (n := 5) (j := 0) C dd_X0_areKnownBroken_0.2.2.1 rfl rfl ?_
  refine xr_get (n := 8) C 0 rfl rfl 2 (by decide) in_X0 u_152 rfl (v := .int wb) rfl dd_X0_areKnownBroken_0.2.2.2.1 rfl ?_
  refine xr_iconst (n := 9) (v := -1) C dd_X0_areKnownBroken_0.2.2.2.2.1 rfl rfl ?_
  refine xr_ixor (n := 10) C dd_X0_areKnownBroken_0.2.2.2.2.2.1 rfl ?_
  refine xr_iand (n := 11) C dd_X0_areKnownBroken_0.2.2.2.2.2.2.1 rfl ?_
  refine xr_if_ne (tgt := 18) (n := 14) C dd_X0_areKnownBroken_0.2.2.2.2.2.2.2.1 rfl rfl (fun c_1 => ?_) (fun c_1 => ?_)
  · replace hR := yf_f c_1 hR
    refine xr_iconst (n := 19) (v := 0) C dd_X0_areKnownBroken_0.2.2.2.2.2.2.2.2.2.2.1 rfl rfl ?_
    obtain rfl := Option.some.inj hR
    exact ret 0 (by decide) ⟨rfl, rfl⟩ (Nat.le_of_ble_eq_true rfl) (Nat.le_of_ble_eq_true rfl) dd_X0_areKnownBroken_0.2.2.2.2.2.2.2.2.2.2.2.1
  · replace hR := yf_t c_1 hR
    refine xr_iconst (n := 15) (v := 1) C dd_X0_areKnownBroken_0.2.2.2.2.2.2.2.2.1 rfl rfl ?_
    refine xr_goto (tgt := 19) C dd_X0_areKnownBroken_0.2.2.2.2.2.2.2.2.2.1 rfl ?_
    obtain rfl := Option.some.inj hR
    exact ret 1 (by decide) ⟨rfl, rfl⟩ (Nat.le_of_ble_eq_true rfl) (Nat.le_of_ble_eq_true rfl) dd_X0_areKnownBroken_0.2.2.2.2.2.2.2.2.2.2.2.1
theorem dd_X0_knownColumns_0 : dk_R cX0_knownColumns [(0, .iconst 0, 1), (1, .istore_n 2, 1), (2, .iconst 0, 1), (3, .istore_n 3, 1), (4, .iload_n 3, 1), (5, .iconst 5, 1), (6, .if_icmp .ge 31, 3), (9, .iload_n 1, 1), (10, .iload_n 3, 1), (11, .ishr, 1), (12, .iconst 1, 1), (13, .iand, 1), (14, .ifCond .eq 17, 3), (17, .iload_n 2, 1), (18, .aload_n 0, 1), (19, .getfield 25, 3)] := dk_use _ _ (by decide +kernel)
theorem dd_X0_knownColumns_1 : dk_R cX0_knownColumns [(22, .iload_n 3, 1), (23, .iconst 5, 1), (24, .imul, 1), (25, .ishr, 1), (26, .bipush 31, 2), (28, .iand, 1), (29, .ior, 1), (30, .istore_n 2, 1), (31, .iinc 3 1, 3), (34, .goto (-30), 3), (37, .iload_n 2, 1), (38, .ireturn, 1)] := dk_use _ _ (by decide +kernel)
def fX0_knownColumns (wk : Int32) (i1 : Int32) : Option (Int32) := ((wl (S := Int32 × Int32) (B := Int32 × Int32) (fun s_1 => (if 5 ≤ s_1.2 then some (.inr (s_1.1, s_1.2)) else (if ((i1 >>> (s_1.2 &&& 31)) &&& 1) = 0 then some (.inl (s_1.1, s_1.2 + 1)) else (ylet (s_1.1 ||| ((wk >>> ((s_1.2 * 5) &&& 31)) &&& 31) : Int32) fun y_5 => some (.inl (y_5, s_1.2 + 1)))))) yFuel (0, 0)).bind fun b_1 => some b_1.1)
abbrev hX0_knownColumns : Cond := .code yX0_knownColumns cX0_knownColumns 4 (some .int)
theorem mX0_knownColumns : yM yX0_knownColumns hX0_knownColumns 1 := ⟨u_373, u_60, by decide +kernel, by decide +kernel, by decide +kernel⟩
set_option maxHeartbeats 4000000 in
set_option maxRecDepth 100000 in
theorem kX0_knownColumns (l : Launch) (D : va_G) (cy : Nat → ClassId) (w : Nat) (wu : Nat) (wm : Nat) (wb : Int32) (wk : Int32) (i1 : Int32) {res : Int32} (hR : fX0_knownColumns wk i1 = some res) : YM l D cy yX0_knownColumns hX0_knownColumns 1 0 0 [.ref w, .int i1] [[(w, .inr (2, [.ref wu, .ref wm, .int wb, .int wk]))]] (fun v u => v = some (.int res) ∧ u = [[(w, .inr (2, [.ref wu, .ref wm, .int wb, .int wk]))]]) := by
  unfold fX0_knownColumns at hR
  refine YM.ofI (cc := cX0_knownColumns) (maxL := 4) (ret := (some .int)) (by decide +kernel) rfl (Nat.le_of_ble_eq_true rfl) [(0, .ref w), (1, .int i1)] rfl rfl (fun p e s m args below meth c A H0 Q C hnm ret => ?_)
  refine xr_iconst (n := 1) (v := 0) C dd_X0_knownColumns_0.1 rfl rfl ?_
  refine xr_istore_n (n := 2) C [(2, .int 0), (0, .ref w), (1, .int i1)] dd_X0_knownColumns_0.2.1 (by decide) rfl rfl ?_
  refine xr_iconst (n := 3) (v := 0) C dd_X0_knownColumns_0.2.2.1 rfl rfl ?_
  refine xr_istore_n (n := 4) C [(3, .int 0), (2, .int 0), (0, .ref w), (1, .int i1)] dd_X0_knownColumns_0.2.2.2.1 (by decide) rfl rfl ?_
  refine xr_lv (lv' := [(0, .ref w), (1, .int i1), (2, .int 0), (3, .int 0)]) [2, 3, 1, 0] rfl ?_
  obtain ⟨b_1, hb_1, hR⟩ := yf_b hR
  have K_1 : X p l e (yR 1 0 0) s m args below meth c D A H0 4 Q [[(w, .inr (2, [.ref wu, .ref wm, .int wb, .int wk]))]] 0 0 [(2, .int b_1.1)] 37 [] := by
    refine xr_iload_n (n := 38) (j := 0) C dd_X0_knownColumns_1.2.2.2.2.2.2.2.2.2.2.1 rfl rfl ?_
    obtain rfl := Option.some.inj hR
    exact ret b_1.1 ⟨rfl, rfl⟩ (Nat.le_of_ble_eq_true rfl) (Nat.le_of_ble_eq_true rfl) dd_X0_knownColumns_1.2.2.2.2.2.2.2.2.2.2.2.1
  refine y_loop (P := fun (s_1 : Int32 × Int32) => X p l e (yR 1 0 0) s m args below meth c D A H0 4 Q [[(w, .inr (2, [.ref wu, .ref wm, .int wb, .int wk]))]] 0 0 [(0, .ref w), (1, .int i1), (2, .int s_1.1), (3, .int s_1.2)] 4 []) ?_ _ (0, 0) hb_1
  intro s_1 o_1 ho_1 hk_1 hx_1
  refine xr_iload_n (n := 5) (j := 3) C dd_X0_knownColumns_0.2.2.2.2.1 rfl rfl ?_
  refine xr_iconst (n := 6) (v := 5) C dd_X0_knownColumns_0.2.2.2.2.2.1 rfl rfl ?_
  refine xr_icmp_ge (tgt := 37) (n := 9) C dd_X0_knownColumns_0.2.2.2.2.2.2.1 rfl rfl (fun c_2 => ?_) (fun c_2 => ?_)
  · replace ho_1 := yf_t c_2 ho_1
    refine xr_lv (lv' := [(2, .int s_1.1)]) [2] rfl ?_
    have e_3 := hx_1 _ (Option.some.inj ho_1).symm
    subst e_3
    exact K_1
  · replace ho_1 := yf_f c_2 ho_1
    refine xr_iload_n (n := 10) (j := 1) C dd_X0_knownColumns_0.2.2.2.2.2.2.2.1 rfl rfl ?_
    refine xr_iload_n (n := 11) (j := 3) C dd_X0_knownColumns_0.2.2.2.2.2.2.2.2.1 rfl rfl ?_
    refine xr_ishr (n := 12) C dd_X0_knownColumns_0.2.2.2.2.2.2.2.2.2.1 rfl ?_
    refine xr_iconst (n := 13) (v := 1) C dd_X0_knownColumns_0.2.2.2.2.2.2.2.2.2.2.1 rfl rfl ?_
    refine xr_iand (n := 14) C dd_X0_knownColumns_0.2.2.2.2.2.2.2.2.2.2.2.1 rfl ?_
    refine xr_if_eq (tgt := 31) (n := 17) C dd_X0_knownColumns_0.2.2.2.2.2.2.2.2.2.2.2.2.1 rfl rfl (fun c_4 => ?_) (fun c_4 => ?_)
    · replace ho_1 := yf_t c_4 ho_1
      refine xr_iinc (j := 3) (v := s_1.2 + 1) (n := 34) C [(3, .int (s_1.2 + 1)), (0, .ref w), (1, .int i1), (2, .int s_1.1)] dd_X0_knownColumns_1.2.2.2.2.2.2.2.2.1 rfl rfl (by decide) rfl rfl ?_
      refine xr_goto (tgt := 4) C dd_X0_knownColumns_1.2.2.2.2.2.2.2.2.2.1 rfl ?_
      refine xr_lv (lv' := [(0, .ref w), (1, .int i1), (2, .int s_1.1), (3, .int (s_1.2 + 1))]) [1, 2, 3, 0] rfl ?_
      exact hk_1 (s_1.1, s_1.2 + 1) (Option.some.inj ho_1).symm
    · replace ho_1 := yf_f c_4 ho_1
      refine xr_iload_n (n := 18) (j := 2) C dd_X0_knownColumns_0.2.2.2.2.2.2.2.2.2.2.2.2.2.1 rfl rfl ?_
      refine xr_aload_n (n := 19) (j := 0) C dd_X0_knownColumns_0.2.2.2.2.2.2.2.2.2.2.2.2.2.2.1 rfl rfl ?_
      refine xr_get (n := 22) C 0 rfl rfl 3 (by decide) in_X0 u_154 rfl (v := .int wk) rfl dd_X0_knownColumns_0.2.2.2.2.2.2.2.2.2.2.2.2.2.2.2.1 rfl ?_
      refine xr_iload_n (n := 23) (j := 3) C dd_X0_knownColumns_1.1 rfl rfl ?_
      refine xr_iconst (n := 24) (v := 5) C dd_X0_knownColumns_1.2.1 rfl rfl ?_
      refine xr_imul (n := 25) C dd_X0_knownColumns_1.2.2.1 rfl ?_
      refine xr_ishr (n := 26) C dd_X0_knownColumns_1.2.2.2.1 rfl ?_
      refine xr_bipush (n := 28) (v := 31) C dd_X0_knownColumns_1.2.2.2.2.1 rfl rfl ?_
      refine xr_iand (n := 29) C dd_X0_knownColumns_1.2.2.2.2.2.1 rfl ?_
      refine xr_ior (n := 30) C dd_X0_knownColumns_1.2.2.2.2.2.2.1 rfl ?_
      obtain ⟨y_5, ey_5, ho_1⟩ := yf_l ho_1
      refine xr_topI ey_5 ?_
      refine xr_istore_n (n := 31) C [(2, .int y_5), (0, .ref w), (1, .int i1), (3, .int s_1.2)] dd_X0_knownColumns_1.2.2.2.2.2.2.2.1 (by decide) rfl rfl ?_
      refine xr_iinc (j := 3) (v := s_1.2 + 1) (n := 34) C [(3, .int (s_1.2 + 1)), (2, .int y_5), (0, .ref w), (1, .int i1)] dd_X0_knownColumns_1.2.2.2.2.2.2.2.2.1 rfl rfl (by decide) rfl rfl ?_
      refine xr_goto (tgt := 4) C dd_X0_knownColumns_1.2.2.2.2.2.2.2.2.2.1 rfl ?_
      refine xr_lv (lv' := [(0, .ref w), (1, .int i1), (2, .int y_5), (3, .int (s_1.2 + 1))]) [2, 3, 1, 0] rfl ?_
      exact hk_1 (y_5, s_1.2 + 1) (Option.some.inj ho_1).symm
