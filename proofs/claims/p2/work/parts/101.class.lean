theorem u_770 : Cond.code yX4_copyFrom cX4_copyFrom 3 none ∈ yU := yu 770 (by decide +kernel) (by decide +kernel)
theorem u_491 : Cond.code yX0_bitOf cX0_bitOf 2 (some .int) ∈ yU := yu 491 (by decide +kernel) (by decide +kernel)
theorem u_60 : Cond.initialized RX0 ∈ yU := yu 60 (by decide +kernel) (by decide +kernel)
theorem u_489 : Cond.methodLink RX0 28 yX0_bitOf ∈ yU := yu 489 (by decide +kernel) (by decide +kernel)
theorem u_490 : Cond.static yX0_bitOf ∈ yU := yu 490 (by decide +kernel) (by decide +kernel)
theorem u_152 : Cond.fieldLink RX0 21 "Pulsemesh$Cells" "brokenSet" "I" ∈ yU := yu 152 (by decide +kernel) (by decide +kernel)
theorem u_154 : Cond.fieldLink RX0 25 "Pulsemesh$Cells" "knownSet" "I" ∈ yU := yu 154 (by decide +kernel) (by decide +kernel)
theorem u_737 : Cond.code yX0_mark cX0_mark 5 none ∈ yU := yu 737 (by decide +kernel) (by decide +kernel)
theorem u_488 : Cond.code yX0_isBrokenAt cX0_isBrokenAt 3 (some .boolean) ∈ yU := yu 488 (by decide +kernel) (by decide +kernel)
theorem dX4_copyFrom_0 : decode cX4_copyFrom 0 = .ok (.iconst 0, 1) := by decide +kernel
theorem dX4_copyFrom_1 : decode cX4_copyFrom 1 = .ok (.istore_n 2, 1) := by decide +kernel
theorem dX4_copyFrom_2 : decode cX4_copyFrom 2 = .ok (.iload_n 2, 1) := by decide +kernel
theorem dX4_copyFrom_3 : decode cX4_copyFrom 3 = .ok (.aload_n 0, 1) := by decide +kernel
theorem dX4_copyFrom_4 : decode cX4_copyFrom 4 = .ok (.getfield 9, 3) := by decide +kernel
theorem dX4_copyFrom_7 : decode cX4_copyFrom 7 = .ok (.arraylength, 1) := by decide +kernel
theorem dX4_copyFrom_8 : decode cX4_copyFrom 8 = .ok (.if_icmp .ge 30, 3) := by decide +kernel
theorem dX4_copyFrom_11 : decode cX4_copyFrom 11 = .ok (.iload_n 2, 1) := by decide +kernel
theorem dX4_copyFrom_12 : decode cX4_copyFrom 12 = .ok (.aload_n 1, 1) := by decide +kernel
theorem dX4_copyFrom_13 : decode cX4_copyFrom 13 = .ok (.getfield 9, 3) := by decide +kernel
theorem dX4_copyFrom_16 : decode cX4_copyFrom 16 = .ok (.arraylength, 1) := by decide +kernel
theorem dX4_copyFrom_17 : decode cX4_copyFrom 17 = .ok (.if_icmp .ge 21, 3) := by decide +kernel
theorem dX4_copyFrom_20 : decode cX4_copyFrom 20 = .ok (.aload_n 0, 1) := by decide +kernel
theorem dX4_copyFrom_21 : decode cX4_copyFrom 21 = .ok (.getfield 9, 3) := by decide +kernel
theorem dX4_copyFrom_24 : decode cX4_copyFrom 24 = .ok (.iload_n 2, 1) := by decide +kernel
theorem dX4_copyFrom_25 : decode cX4_copyFrom 25 = .ok (.aload_n 1, 1) := by decide +kernel
theorem dX4_copyFrom_26 : decode cX4_copyFrom 26 = .ok (.getfield 9, 3) := by decide +kernel
theorem dX4_copyFrom_29 : decode cX4_copyFrom 29 = .ok (.iload_n 2, 1) := by decide +kernel
theorem dX4_copyFrom_30 : decode cX4_copyFrom 30 = .ok (.iaload, 1) := by decide +kernel
theorem dX4_copyFrom_31 : decode cX4_copyFrom 31 = .ok (.iastore, 1) := by decide +kernel
theorem dX4_copyFrom_32 : decode cX4_copyFrom 32 = .ok (.iinc 2 1, 3) := by decide +kernel
theorem dX4_copyFrom_35 : decode cX4_copyFrom 35 = .ok (.goto (-33), 3) := by decide +kernel
theorem dX4_copyFrom_38 : decode cX4_copyFrom 38 = .ok (.return_, 1) := by decide +kernel
def fX4_copyFrom (hf : Nat → Int32) (h2f : Nat → Int32) : Option (Nat → Int32) := ((wl (S := Int32 × (Nat → Int32)) (B := Int32 × (Nat → Int32)) (fun s_1 => (if (nI 81) ≤ s_1.1 then some (.inr (s_1.1, s_1.2)) else (if (nI 81) ≤ s_1.1 then some (.inr (s_1.1, s_1.2)) else (if ¬ (s_1.1 < 0 ∨ 81 ≤ s_1.1.toNatClampNeg) then (if ¬ (s_1.1 < 0 ∨ 81 ≤ s_1.1.toNatClampNeg) then some (.inl (s_1.1 + 1, upd s_1.2 s_1.1.toNatClampNeg (h2f s_1.1.toNatClampNeg))) else none) else none)))) yFuel (0, hf)).bind fun b_1 => some b_1.2)
abbrev hX4_copyFrom : Cond := .code yX4_copyFrom cX4_copyFrom 3 none
theorem mX4_copyFrom : yM yX4_copyFrom hX4_copyFrom 1 := ⟨u_770, u_59, by decide +kernel, by decide +kernel, by decide +kernel⟩
set_option maxHeartbeats 4000000 in
set_option maxRecDepth 100000 in
theorem kX4_copyFrom (l : Launch) (D : va_G) (cy : Nat → ClassId) (h : Nat) (hn : Nat) (hf : Nat → Int32) (h2 : Nat) (h2n : Nat) (h2f : Nat → Int32) {res : Nat → Int32} (hR : fX4_copyFrom hf h2f = some res) : YM l D cy yX4_copyFrom hX4_copyFrom 1 0 0 [.ref h, .ref h2] [[(h, .inr (6, [.ref hn]))], [(hn, .inl (cy 1, 81, .inl hf))], [(h2, .inr (6, [.ref h2n]))], [(h2n, .inl (cy 1, 81, .inl h2f))]] (fun v u => v = none ∧ u = [[(h, .inr (6, [.ref hn]))], [(hn, .inl (cy 1, 81, .inl res))], [(h2, .inr (6, [.ref h2n]))], [(h2n, .inl (cy 1, 81, .inl h2f))]]) := by
  unfold fX4_copyFrom at hR
  refine YM.ofV (cc := cX4_copyFrom) (maxL := 3) (ret := none) (by decide +kernel) rfl (Nat.le_of_ble_eq_true rfl) [(0, .ref h), (1, .ref h2)] rfl rfl (fun p e s m args below meth c A H0 Q C hnm ret => ?_)
  refine xr_iconst (n := 1) (v := 0) C dX4_copyFrom_0 rfl rfl ?_
  refine xr_istore_n (n := 2) C [(2, .int 0), (0, .ref h), (1, .ref h2)] dX4_copyFrom_1 (by decide) rfl rfl ?_
  refine xr_lv (lv' := [(0, .ref h), (1, .ref h2), (2, .int 0)]) [1, 2, 0] rfl ?_
  obtain ⟨b_1, hb_1, hR⟩ := yf_b hR
  have K_1 : X p l e (yR 1 0 0) s m args below meth c D A H0 3 Q [[(h, .inr (6, [.ref hn]))], [(hn, .inl (cy 1, 81, .inl b_1.2))], [(h2, .inr (6, [.ref h2n]))], [(h2n, .inl (cy 1, 81, .inl h2f))]] 0 0 [] 38 [] := by
    obtain rfl := Option.some.inj hR
    exact ret ⟨rfl, rfl⟩ (Nat.le_of_ble_eq_true rfl) (Nat.le_of_ble_eq_true rfl) dX4_copyFrom_38
  refine y_loop (P := fun s_1 => X p l e (yR 1 0 0) s m args below meth c D A H0 3 Q [[(h, .inr (6, [.ref hn]))], [(hn, .inl (cy 1, 81, .inl s_1.2))], [(h2, .inr (6, [.ref h2n]))], [(h2n, .inl (cy 1, 81, .inl h2f))]] 0 0 [(0, .ref h), (1, .ref h2), (2, .int s_1.1)] 2 []) ?_ _ _ hb_1
  intro s_1 o_1 ho_1 hk_1 hx_1
  refine xr_iload_n (n := 3) (j := 2) C dX4_copyFrom_2 rfl rfl ?_
  refine xr_aload_n (n := 4) (j := 0) C dX4_copyFrom_3 rfl rfl ?_
  refine xr_get (n := 7) C 0 rfl rfl 0 (by decide) in_X4 u_104 rfl (v := .ref hn) rfl dX4_copyFrom_4 rfl ?_
  refine xr_alen (n := 8) C 1 0 rfl 1 rfl rfl dX4_copyFrom_7 rfl ?_
  refine xr_icmp_ge (tgt := 38) (n := 11) C dX4_copyFrom_8 rfl rfl (fun c_2 => ?_) (fun c_2 => ?_)
  · replace ho_1 := yf_t c_2 ho_1
    refine xr_lv (lv' := []) [] rfl ?_
    have e_3 := hx_1 _ (Option.some.inj ho_1).symm
    subst e_3
    exact K_1
  · replace ho_1 := yf_f c_2 ho_1
    refine xr_iload_n (n := 12) (j := 2) C dX4_copyFrom_11 rfl rfl ?_
    refine xr_aload_n (n := 13) (j := 1) C dX4_copyFrom_12 rfl rfl ?_
    refine xr_get (n := 16) C 2 rfl rfl 0 (by decide) in_X4 u_104 rfl (v := .ref h2n) rfl dX4_copyFrom_13 rfl ?_
    refine xr_alen (n := 17) C 3 0 rfl 1 rfl rfl dX4_copyFrom_16 rfl ?_
    refine xr_icmp_ge (tgt := 38) (n := 20) C dX4_copyFrom_17 rfl rfl (fun c_4 => ?_) (fun c_4 => ?_)
    · replace ho_1 := yf_t c_4 ho_1
      refine xr_lv (lv' := []) [] rfl ?_
      have e_5 := hx_1 _ (Option.some.inj ho_1).symm
      subst e_5
      exact K_1
    · replace ho_1 := yf_f c_4 ho_1
      refine xr_aload_n (n := 21) (j := 0) C dX4_copyFrom_20 rfl rfl ?_
      refine xr_get (n := 24) C 0 rfl rfl 0 (by decide) in_X4 u_104 rfl (v := .ref hn) rfl dX4_copyFrom_21 rfl ?_
      refine xr_iload_n (n := 25) (j := 2) C dX4_copyFrom_24 rfl rfl ?_
      refine xr_aload_n (n := 26) (j := 1) C dX4_copyFrom_25 rfl rfl ?_
      refine xr_get (n := 29) C 2 rfl rfl 0 (by decide) in_X4 u_104 rfl (v := .ref h2n) rfl dX4_copyFrom_26 rfl ?_
      refine xr_iload_n (n := 30) (j := 2) C dX4_copyFrom_29 rfl rfl ?_
      obtain ⟨g_6, ho_1⟩ := yf_g ho_1
      refine xr_iald (n := 31) C 3 0 rfl rfl g_6 dX4_copyFrom_30 rfl ?_
      obtain ⟨g_7, ho_1⟩ := yf_g ho_1
      refine xr_iast (n := 32) C 1 0 rfl rfl g_7 [[(h, .inr (6, [.ref hn]))], [(hn, .inl (cy 1, 81, .inl (upd s_1.2 s_1.1.toNatClampNeg (h2f s_1.1.toNatClampNeg))))], [(h2, .inr (6, [.ref h2n]))], [(h2n, .inl (cy 1, 81, .inl h2f))]] rfl dX4_copyFrom_31 rfl ?_
      refine xr_iinc (j := 2) (v := s_1.1 + 1) (n := 35) C [(2, .int (s_1.1 + 1)), (0, .ref h), (1, .ref h2)] dX4_copyFrom_32 rfl rfl (by decide) rfl rfl ?_
      refine xr_goto (tgt := 2) C dX4_copyFrom_35 rfl ?_
      refine xr_lv (lv' := [(0, .ref h), (1, .ref h2), (2, .int (s_1.1 + 1))]) [1, 2, 0] rfl ?_
      exact hk_1 _ (Option.some.inj ho_1).symm
theorem dX0_bitOf_0 : decode cX0_bitOf 0 = .ok (.iconst 1, 1) := by decide +kernel
theorem dX0_bitOf_1 : decode cX0_bitOf 1 = .ok (.iload_n 0, 1) := by decide +kernel
theorem dX0_bitOf_2 : decode cX0_bitOf 2 = .ok (.iconst 5, 1) := by decide +kernel
theorem dX0_bitOf_3 : decode cX0_bitOf 3 = .ok (.imul, 1) := by decide +kernel
theorem dX0_bitOf_4 : decode cX0_bitOf 4 = .ok (.iload_n 1, 1) := by decide +kernel
theorem dX0_bitOf_5 : decode cX0_bitOf 5 = .ok (.iadd, 1) := by decide +kernel
theorem dX0_bitOf_6 : decode cX0_bitOf 6 = .ok (.ishl, 1) := by decide +kernel
theorem dX0_bitOf_7 : decode cX0_bitOf 7 = .ok (.ireturn, 1) := by decide +kernel
def fX0_bitOf (i1 : Int32) (i2 : Int32) : Option (Int32) := some ((1 : Int32) <<< (((i1 * 5) + i2) &&& 31))
abbrev hX0_bitOf : Cond := .code yX0_bitOf cX0_bitOf 2 (some .int)
theorem mX0_bitOf : yM yX0_bitOf hX0_bitOf 2 := ⟨u_491, u_60, by decide +kernel, by decide +kernel, by decide +kernel⟩
set_option maxHeartbeats 4000000 in
set_option maxRecDepth 100000 in
theorem kX0_bitOf (l : Launch) (D : va_G) (cy : Nat → ClassId) (i1 : Int32) (i2 : Int32) {res : Int32} (hR : fX0_bitOf i1 i2 = some res) : YM l D cy yX0_bitOf hX0_bitOf 1 0 0 [.int i1, .int i2] [] (fun v u => v = some (.int res) ∧ u = []) := by
  unfold fX0_bitOf at hR
  refine YM.ofI (cc := cX0_bitOf) (maxL := 2) (ret := (some .int)) (by decide +kernel) rfl (Nat.le_of_ble_eq_true rfl) [(0, .int i1), (1, .int i2)] rfl rfl (fun p e s m args below meth c A H0 Q C hnm ret => ?_)
  refine xr_iconst (n := 1) (v := 1) C dX0_bitOf_0 rfl rfl ?_
  refine xr_iload_n (n := 2) (j := 0) C dX0_bitOf_1 rfl rfl ?_
  refine xr_iconst (n := 3) (v := 5) C dX0_bitOf_2 rfl rfl ?_
  refine xr_imul (n := 4) C dX0_bitOf_3 rfl ?_
  refine xr_iload_n (n := 5) (j := 1) C dX0_bitOf_4 rfl rfl ?_
  refine xr_iadd (n := 6) C dX0_bitOf_5 rfl ?_
  refine xr_ishl (n := 7) C dX0_bitOf_6 rfl ?_
  obtain rfl := Option.some.inj hR
  exact ret ((1 : Int32) <<< (((i1 * 5) + i2) &&& 31)) ⟨rfl, rfl⟩ (Nat.le_of_ble_eq_true rfl) (Nat.le_of_ble_eq_true rfl) dX0_bitOf_7
theorem dX0_mark_0 : decode cX0_mark 0 = .ok (.iload_n 1, 1) := by decide +kernel
theorem dX0_mark_1 : decode cX0_mark 1 = .ok (.iload_n 2, 1) := by decide +kernel
theorem dX0_mark_2 : decode cX0_mark 2 = .ok (.invokestatic 28, 3) := by decide +kernel
theorem dX0_mark_5 : decode cX0_mark 5 = .ok (.istore 4, 2) := by decide +kernel
theorem dX0_mark_7 : decode cX0_mark 7 = .ok (.iload_n 3, 1) := by decide +kernel
theorem dX0_mark_8 : decode cX0_mark 8 = .ok (.ifCond .eq 17, 3) := by decide +kernel
theorem dX0_mark_11 : decode cX0_mark 11 = .ok (.aload_n 0, 1) := by decide +kernel
theorem dX0_mark_12 : decode cX0_mark 12 = .ok (.dup, 1) := by decide +kernel
theorem dX0_mark_13 : decode cX0_mark 13 = .ok (.getfield 21, 3) := by decide +kernel
theorem dX0_mark_16 : decode cX0_mark 16 = .ok (.iload 4, 2) := by decide +kernel
theorem dX0_mark_18 : decode cX0_mark 18 = .ok (.ior, 1) := by decide +kernel
theorem dX0_mark_19 : decode cX0_mark 19 = .ok (.putfield 21, 3) := by decide +kernel
theorem dX0_mark_22 : decode cX0_mark 22 = .ok (.goto 29, 3) := by decide +kernel
theorem dX0_mark_25 : decode cX0_mark 25 = .ok (.aload_n 0, 1) := by decide +kernel
theorem dX0_mark_26 : decode cX0_mark 26 = .ok (.dup, 1) := by decide +kernel
theorem dX0_mark_27 : decode cX0_mark 27 = .ok (.getfield 21, 3) := by decide +kernel
theorem dX0_mark_30 : decode cX0_mark 30 = .ok (.iload 4, 2) := by decide +kernel
theorem dX0_mark_32 : decode cX0_mark 32 = .ok (.iconst (-1), 1) := by decide +kernel
theorem dX0_mark_33 : decode cX0_mark 33 = .ok (.ixor, 1) := by decide +kernel
theorem dX0_mark_34 : decode cX0_mark 34 = .ok (.iand, 1) := by decide +kernel
theorem dX0_mark_35 : decode cX0_mark 35 = .ok (.putfield 21, 3) := by decide +kernel
theorem dX0_mark_38 : decode cX0_mark 38 = .ok (.aload_n 0, 1) := by decide +kernel
theorem dX0_mark_39 : decode cX0_mark 39 = .ok (.dup, 1) := by decide +kernel
theorem dX0_mark_40 : decode cX0_mark 40 = .ok (.getfield 25, 3) := by decide +kernel
theorem dX0_mark_43 : decode cX0_mark 43 = .ok (.iload 4, 2) := by decide +kernel
theorem dX0_mark_45 : decode cX0_mark 45 = .ok (.iconst (-1), 1) := by decide +kernel
theorem dX0_mark_46 : decode cX0_mark 46 = .ok (.ixor, 1) := by decide +kernel
theorem dX0_mark_47 : decode cX0_mark 47 = .ok (.iand, 1) := by decide +kernel
theorem dX0_mark_48 : decode cX0_mark 48 = .ok (.putfield 25, 3) := by decide +kernel
theorem dX0_mark_51 : decode cX0_mark 51 = .ok (.return_, 1) := by decide +kernel
def fX0_mark (wb : Int32) (wk : Int32) (i1 : Int32) (i2 : Int32) (isb : Int32) : Option (Int32 × Int32) := ((fX0_bitOf i1 i2).bind fun x_1 => (if isb = 0 then some (wb &&& (x_1 ^^^ (-1)), wk &&& (x_1 ^^^ (-1))) else some (wb ||| x_1, wk)))
abbrev hX0_mark : Cond := .code yX0_mark cX0_mark 5 none
theorem mX0_mark : yM yX0_mark hX0_mark 3 := ⟨u_737, u_60, by decide +kernel, by decide +kernel, by decide +kernel⟩
set_option maxHeartbeats 4000000 in
set_option maxRecDepth 100000 in
theorem kX0_mark (l : Launch) (D : va_G) (cy : Nat → ClassId) (w : Nat) (wu : Nat) (wm : Nat) (wb : Int32) (wk : Int32) (i1 : Int32) (i2 : Int32) (isb : Int32) {res : Int32 × Int32} (hR : fX0_mark wb wk i1 i2 isb = some res) : YM l D cy yX0_mark hX0_mark 2 0 0 [.ref w, .int i1, .int i2, .int isb] [[(w, .inr (2, [.ref wu, .ref wm, .int wb, .int wk]))]] (fun v u => v = none ∧ u = [[(w, .inr (2, [.ref wu, .ref wm, .int res.1, .int res.2]))]]) := by
  unfold fX0_mark at hR
  refine YM.ofV (cc := cX0_mark) (maxL := 5) (ret := none) (by decide +kernel) rfl (Nat.le_of_ble_eq_true rfl) [(0, .ref w), (1, .int i1), (2, .int i2), (3, .int isb)] rfl rfl (fun p e s m args below meth c A H0 Q C hnm ret => ?_)
  refine xr_iload_n (n := 1) (j := 1) C dX0_mark_0 rfl rfl ?_
  refine xr_iload_n (n := 2) (j := 2) C dX0_mark_1 rfl rfl ?_
  obtain ⟨x_1, hx_1, hR⟩ := yf_b hR
  refine xr_callSp (n := 5) (As := [.int i1, .int i2]) (rest := []) C (kX0_bitOf l D cy (i1 := i1) (i2 := i2) hx_1) mX0_bitOf u_489 u_490 [] [0] rfl rfl rfl rfl rfl (Nat.le_of_ble_eq_true rfl) (Nat.le_of_ble_eq_true rfl) (Nat.le_of_ble_eq_true rfl) (Nat.le_of_ble_eq_true rfl) (Nat.le_of_ble_eq_true rfl) dX0_mark_2 rfl (fun _ _ hp => hp.2) (fun v_2 hp_4 => ?_)
  obtain ⟨rfl, -⟩ := hp_4
  refine xr_st (st' := [.int x_1]) rfl ?_
  refine xr_istore (n := 7) C [(4, .int x_1), (0, .ref w), (1, .int i1), (2, .int i2), (3, .int isb)] dX0_mark_5 (by decide) rfl rfl ?_
  refine xr_iload_n (n := 8) (j := 4) C dX0_mark_7 rfl rfl ?_
  refine xr_if_eq (tgt := 25) (n := 11) C dX0_mark_8 rfl rfl (fun c_5 => ?_) (fun c_5 => ?_)
  · replace hR := yf_t c_5 hR
    refine xr_aload_n (n := 26) (j := 1) C dX0_mark_25 rfl rfl ?_
    refine xr_dup (n := 27) C dX0_mark_26 rfl rfl ?_
    refine xr_get (n := 30) C 0 rfl rfl 2 (by decide) in_X0 u_152 rfl (v := .int wb) rfl dX0_mark_27 rfl ?_
    refine xr_iload (n := 32) (j := 0) C dX0_mark_30 rfl rfl ?_
    refine xr_iconst (n := 33) (v := -1) C dX0_mark_32 rfl rfl ?_
    refine xr_ixor (n := 34) C dX0_mark_33 rfl ?_
    refine xr_iand (n := 35) C dX0_mark_34 rfl ?_
    refine xr_put (n := 38) C 0 rfl rfl 2 (by decide) in_X0 tyX0 tyX0_ok nmX0 u_152 rfl rfl rfl rfl (Nat.le_of_ble_eq_true rfl) [[(w, .inr (2, [.ref wu, .ref wm, .int (wb &&& (x_1 ^^^ (-1))), .int wk]))]] rfl rfl dX0_mark_35 ?_
    refine xr_aload_n (n := 39) (j := 1) C dX0_mark_38 rfl rfl ?_
    refine xr_dup (n := 40) C dX0_mark_39 rfl rfl ?_
    refine xr_get (n := 43) C 0 rfl rfl 3 (by decide) in_X0 u_154 rfl (v := .int wk) rfl dX0_mark_40 rfl ?_
    refine xr_iload (n := 45) (j := 0) C dX0_mark_43 rfl rfl ?_
    refine xr_iconst (n := 46) (v := -1) C dX0_mark_45 rfl rfl ?_
    refine xr_ixor (n := 47) C dX0_mark_46 rfl ?_
    refine xr_iand (n := 48) C dX0_mark_47 rfl ?_
    refine xr_put (n := 51) C 0 rfl rfl 3 (by decide) in_X0 tyX0 tyX0_ok nmX0 u_154 rfl rfl rfl rfl (Nat.le_of_ble_eq_true rfl) [[(w, .inr (2, [.ref wu, .ref wm, .int (wb &&& (x_1 ^^^ (-1))), .int (wk &&& (x_1 ^^^ (-1)))]))]] rfl rfl dX0_mark_48 ?_
    obtain rfl := Option.some.inj hR
    exact ret ⟨rfl, rfl⟩ (Nat.le_of_ble_eq_true rfl) (Nat.le_of_ble_eq_true rfl) dX0_mark_51
  · replace hR := yf_f c_5 hR
    refine xr_aload_n (n := 12) (j := 1) C dX0_mark_11 rfl rfl ?_
    refine xr_dup (n := 13) C dX0_mark_12 rfl rfl ?_
    refine xr_get (n := 16) C 0 rfl rfl 2 (by decide) in_X0 u_152 rfl (v := .int wb) rfl dX0_mark_13 rfl ?_
    refine xr_iload (n := 18) (j := 0) C dX0_mark_16 rfl rfl ?_
    refine xr_ior (n := 19) C dX0_mark_18 rfl ?_
    refine xr_put (n := 22) C 0 rfl rfl 2 (by decide) in_X0 tyX0 tyX0_ok nmX0 u_152 rfl rfl rfl rfl (Nat.le_of_ble_eq_true rfl) [[(w, .inr (2, [.ref wu, .ref wm, .int (wb ||| x_1), .int wk]))]] rfl rfl dX0_mark_19 ?_
    refine xr_goto (tgt := 51) C dX0_mark_22 rfl ?_
    obtain rfl := Option.some.inj hR
    exact ret ⟨rfl, rfl⟩ (Nat.le_of_ble_eq_true rfl) (Nat.le_of_ble_eq_true rfl) dX0_mark_51
theorem dX0_isBrokenAt_0 : decode cX0_isBrokenAt 0 = .ok (.aload_n 0, 1) := by decide +kernel
theorem dX0_isBrokenAt_1 : decode cX0_isBrokenAt 1 = .ok (.getfield 21, 3) := by decide +kernel
theorem dX0_isBrokenAt_4 : decode cX0_isBrokenAt 4 = .ok (.iload_n 1, 1) := by decide +kernel
theorem dX0_isBrokenAt_5 : decode cX0_isBrokenAt 5 = .ok (.iload_n 2, 1) := by decide +kernel
theorem dX0_isBrokenAt_6 : decode cX0_isBrokenAt 6 = .ok (.invokestatic 28, 3) := by decide +kernel
theorem dX0_isBrokenAt_9 : decode cX0_isBrokenAt 9 = .ok (.iand, 1) := by decide +kernel
theorem dX0_isBrokenAt_10 : decode cX0_isBrokenAt 10 = .ok (.ifCond .eq 7, 3) := by decide +kernel
theorem dX0_isBrokenAt_13 : decode cX0_isBrokenAt 13 = .ok (.iconst 1, 1) := by decide +kernel
theorem dX0_isBrokenAt_14 : decode cX0_isBrokenAt 14 = .ok (.goto 4, 3) := by decide +kernel
theorem dX0_isBrokenAt_17 : decode cX0_isBrokenAt 17 = .ok (.iconst 0, 1) := by decide +kernel
theorem dX0_isBrokenAt_18 : decode cX0_isBrokenAt 18 = .ok (.ireturn, 1) := by decide +kernel
def fX0_isBrokenAt (wb : Int32) (i1 : Int32) (i2 : Int32) : Option (Int32) := ((fX0_bitOf i1 i2).bind fun x_1 => (if (wb &&& x_1) = 0 then some 0 else some 1))
abbrev hX0_isBrokenAt : Cond := .code yX0_isBrokenAt cX0_isBrokenAt 3 (some .boolean)
theorem mX0_isBrokenAt : yM yX0_isBrokenAt hX0_isBrokenAt 2 := ⟨u_488, u_60, by decide +kernel, by decide +kernel, by decide +kernel⟩
set_option maxHeartbeats 4000000 in
set_option maxRecDepth 100000 in
theorem kX0_isBrokenAt (l : Launch) (D : va_G) (cy : Nat → ClassId) (w : Nat) (wu : Nat) (wm : Nat) (wb : Int32) (wk : Int32) (i1 : Int32) (i2 : Int32) {res : Int32} (hR : fX0_isBrokenAt wb i1 i2 = some res) : YM l D cy yX0_isBrokenAt hX0_isBrokenAt 2 0 0 [.ref w, .int i1, .int i2] [[(w, .inr (2, [.ref wu, .ref wm, .int wb, .int wk]))]] (fun v u => v = some (.int res) ∧ u = [[(w, .inr (2, [.ref wu, .ref wm, .int wb, .int wk]))]]) := by
  unfold fX0_isBrokenAt at hR
  refine YM.ofZ (cc := cX0_isBrokenAt) (maxL := 3) (ret := (some .boolean)) (by decide +kernel) rfl (Nat.le_of_ble_eq_true rfl) [(0, .ref w), (1, .int i1), (2, .int i2)] rfl .boolean rfl (fun p e s m args below meth c A H0 Q C hnm ret => ?_)
  refine xr_aload_n (n := 1) (j := 0) C dX0_isBrokenAt_0 rfl rfl ?_
  refine xr_get (n := 4) C 0 rfl rfl 2 (by decide) in_X0 u_152 rfl (v := .int wb) rfl dX0_isBrokenAt_1 rfl ?_
  refine xr_iload_n (n := 5) (j := 1) C dX0_isBrokenAt_4 rfl rfl ?_
  refine xr_iload_n (n := 6) (j := 2) C dX0_isBrokenAt_5 rfl rfl ?_
  obtain ⟨x_1, hx_1, hR⟩ := yf_b hR
  refine xr_callSp (n := 9) (As := [.int i1, .int i2]) (rest := [.int wb]) C (kX0_bitOf l D cy (i1 := i1) (i2 := i2) hx_1) mX0_bitOf u_489 u_490 [] [0] rfl rfl rfl rfl rfl (Nat.le_of_ble_eq_true rfl) (Nat.le_of_ble_eq_true rfl) (Nat.le_of_ble_eq_true rfl) (Nat.le_of_ble_eq_true rfl) (Nat.le_of_ble_eq_true rfl) dX0_isBrokenAt_6 rfl (fun _ _ hp => hp.2) (fun v_2 hp_4 => ?_)
  obtain ⟨rfl, -⟩ := hp_4
  refine xr_st (st' := [.int x_1, .int wb]) rfl ?_
  refine xr_iand (n := 10) C dX0_isBrokenAt_9 rfl ?_
  refine xr_if_eq (tgt := 17) (n := 13) C dX0_isBrokenAt_10 rfl rfl (fun c_5 => ?_) (fun c_5 => ?_)
  · replace hR := yf_t c_5 hR
    refine xr_iconst (n := 18) (v := 0) C dX0_isBrokenAt_17 rfl rfl ?_
    obtain rfl := Option.some.inj hR
    exact ret 0 (by decide) ⟨rfl, rfl⟩ (Nat.le_of_ble_eq_true rfl) (Nat.le_of_ble_eq_true rfl) dX0_isBrokenAt_18
  · replace hR := yf_f c_5 hR
    refine xr_iconst (n := 14) (v := 1) C dX0_isBrokenAt_13 rfl rfl ?_
    refine xr_goto (tgt := 18) C dX0_isBrokenAt_14 rfl ?_
    obtain rfl := Option.some.inj hR
    exact ret 1 (by decide) ⟨rfl, rfl⟩ (Nat.le_of_ble_eq_true rfl) (Nat.le_of_ble_eq_true rfl) dX0_isBrokenAt_18
