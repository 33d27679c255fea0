theorem u_535 : Cond.code yX1_leftOperand cX1_leftOperand 5 (some .int) ∈ yU := yu 535 (by decide +kernel) (by decide +kernel)
theorem u_539 : Cond.code yX1_topOperand cX1_topOperand 5 (some .int) ∈ yU := yu 539 (by decide +kernel) (by decide +kernel)
theorem u_527 : Cond.code yX1_firstSum cX1_firstSum 1 (some .int) ∈ yU := yu 527 (by decide +kernel) (by decide +kernel)
theorem u_532 : Cond.methodLink RX1 50 yX1_leftOperand ∈ yU := yu 532 (by decide +kernel) (by decide +kernel)
theorem u_533 : Cond.instanceMethod yX1_leftOperand ∈ yU := yu 533 (by decide +kernel) (by decide +kernel)
theorem u_534 : Cond.selects RX1 yX1_leftOperand yX1_leftOperand ∈ yU := yu 534 (by decide +kernel) (by decide +kernel)
theorem u_536 : Cond.methodLink RX1 53 yX1_topOperand ∈ yU := yu 536 (by decide +kernel) (by decide +kernel)
theorem u_537 : Cond.instanceMethod yX1_topOperand ∈ yU := yu 537 (by decide +kernel) (by decide +kernel)
theorem u_538 : Cond.selects RX1 yX1_topOperand yX1_topOperand ∈ yU := yu 538 (by decide +kernel) (by decide +kernel)
theorem u_540 : Cond.methodLink RX1 56 yJ9_min_7cf53 ∈ yU := yu 540 (by decide +kernel) (by decide +kernel)
theorem u_438 : Cond.static yJ9_min_7cf53 ∈ yU := yu 438 (by decide +kernel) (by decide +kernel)
theorem u_74 : Cond.initialized RJ9 ∈ yU := yu 74 (by decide +kernel) (by decide +kernel)
theorem u_439 : Cond.code Lib.Math.min.name Lib.Math.min.code 2 (some .int) ∈ yU := yu 439 (by decide +kernel) (by decide +kernel)
theorem u_541 : Cond.methodLink RX1 61 yJ9_max_7cf53 ∈ yU := yu 541 (by decide +kernel) (by decide +kernel)
theorem u_445 : Cond.static yJ9_max_7cf53 ∈ yU := yu 445 (by decide +kernel) (by decide +kernel)
theorem u_446 : Cond.code Lib.Math.max.name Lib.Math.max.code 2 (some .int) ∈ yU := yu 446 (by decide +kernel) (by decide +kernel)
theorem u_531 : Cond.code yX1_bringIn cX1_bringIn 7 (some .int) ∈ yU := yu 531 (by decide +kernel) (by decide +kernel)
theorem dX1_leftOperand_0 : decode cX1_leftOperand 0 = .ok (.iload_n 1, 1) := by decide +kernel
theorem dX1_leftOperand_1 : decode cX1_leftOperand 1 = .ok (.aload_n 0, 1) := by decide +kernel
theorem dX1_leftOperand_2 : decode cX1_leftOperand 2 = .ok (.getfield 21, 3) := by decide +kernel
theorem dX1_leftOperand_5 : decode cX1_leftOperand 5 = .ok (.if_icmp .ge 13, 3) := by decide +kernel
theorem dX1_leftOperand_8 : decode cX1_leftOperand 8 = .ok (.aload_n 0, 1) := by decide +kernel
theorem dX1_leftOperand_9 : decode cX1_leftOperand 9 = .ok (.getfield 12, 3) := by decide +kernel
theorem dX1_leftOperand_12 : decode cX1_leftOperand 12 = .ok (.iload_n 1, 1) := by decide +kernel
theorem dX1_leftOperand_13 : decode cX1_leftOperand 13 = .ok (.iload_n 2, 1) := by decide +kernel
theorem dX1_leftOperand_14 : decode cX1_leftOperand 14 = .ok (.invokevirtual 46, 3) := by decide +kernel
theorem dX1_leftOperand_17 : decode cX1_leftOperand 17 = .ok (.ireturn, 1) := by decide +kernel
theorem dX1_leftOperand_18 : decode cX1_leftOperand 18 = .ok (.iconst 0, 1) := by decide +kernel
theorem dX1_leftOperand_19 : decode cX1_leftOperand 19 = .ok (.istore_n 3, 1) := by decide +kernel
theorem dX1_leftOperand_20 : decode cX1_leftOperand 20 = .ok (.iconst 0, 1) := by decide +kernel
theorem dX1_leftOperand_21 : decode cX1_leftOperand 21 = .ok (.istore 4, 2) := by decide +kernel
theorem dX1_leftOperand_23 : decode cX1_leftOperand 23 = .ok (.iload 4, 2) := by decide +kernel
theorem dX1_leftOperand_25 : decode cX1_leftOperand 25 = .ok (.aload_n 0, 1) := by decide +kernel
theorem dX1_leftOperand_26 : decode cX1_leftOperand 26 = .ok (.getfield 21, 3) := by decide +kernel
theorem dX1_leftOperand_29 : decode cX1_leftOperand 29 = .ok (.if_icmp .ge 22, 3) := by decide +kernel
theorem dX1_leftOperand_32 : decode cX1_leftOperand 32 = .ok (.iload_n 3, 1) := by decide +kernel
theorem dX1_leftOperand_33 : decode cX1_leftOperand 33 = .ok (.aload_n 0, 1) := by decide +kernel
theorem dX1_leftOperand_34 : decode cX1_leftOperand 34 = .ok (.getfield 12, 3) := by decide +kernel
theorem dX1_leftOperand_37 : decode cX1_leftOperand 37 = .ok (.iload 4, 2) := by decide +kernel
theorem dX1_leftOperand_39 : decode cX1_leftOperand 39 = .ok (.iload_n 2, 1) := by decide +kernel
theorem dX1_leftOperand_40 : decode cX1_leftOperand 40 = .ok (.invokevirtual 46, 3) := by decide +kernel
theorem dX1_leftOperand_43 : decode cX1_leftOperand 43 = .ok (.iadd, 1) := by decide +kernel
theorem dX1_leftOperand_44 : decode cX1_leftOperand 44 = .ok (.istore_n 3, 1) := by decide +kernel
theorem dX1_leftOperand_45 : decode cX1_leftOperand 45 = .ok (.iinc 4 1, 3) := by decide +kernel
theorem dX1_leftOperand_48 : decode cX1_leftOperand 48 = .ok (.goto (-25), 3) := by decide +kernel
theorem dX1_leftOperand_51 : decode cX1_leftOperand 51 = .ok (.iload_n 3, 1) := by decide +kernel
theorem dX1_leftOperand_52 : decode cX1_leftOperand 52 = .ok (.ireturn, 1) := by decide +kernel
def fX1_leftOperand (jr : Int32) (jaf : Nat → Int32) (i1 : Int32) (i2 : Int32) : Option (Int32) := (if jr ≤ i1 then ((wl (S := Int32 × Int32) (B := Int32 × Int32) (fun s_2 => (if jr ≤ s_2.2 then some (.inr (s_2.1, s_2.2)) else ((fX4_get jaf s_2.2 i2).bind fun x_5 => some (.inl (s_2.1 + x_5, s_2.2 + 1))))) yFuel (0, 0)).bind fun b_2 => some b_2.1) else ((fX4_get jaf i1 i2).bind fun x_9 => some x_9))
abbrev hX1_leftOperand : Cond := .code yX1_leftOperand cX1_leftOperand 5 (some .int)
theorem mX1_leftOperand : yM yX1_leftOperand hX1_leftOperand 2 := ⟨u_535, u_58, by decide +kernel, by decide +kernel, by decide +kernel⟩
set_option maxHeartbeats 4000000 in
set_option maxRecDepth 100000 in
theorem kX1_leftOperand (l : Launch) (D : va_G) (cy : Nat → ClassId) (j : Nat) (ja : Nat) (jb : Nat) (jr : Int32) (jk : Int32) (jc : Int32) (jg : Int32) (js : Int32) (jan : Nat) (jaf : Nat → Int32) (i1 : Int32) (i2 : Int32) {res : Int32} (hR : fX1_leftOperand jr jaf i1 i2 = some res) : YM l D cy yX1_leftOperand hX1_leftOperand 2 0 0 [.ref j, .int i1, .int i2] [[(j, .inr (3, [.ref ja, .ref jb, .int jr, .int jk, .int jc, .int jg, .int js]))], [(ja, .inr (6, [.ref jan]))], [(jan, .inl (cy 1, 81, .inl jaf))]] (fun v u => v = some (.int res) ∧ u = [[(j, .inr (3, [.ref ja, .ref jb, .int jr, .int jk, .int jc, .int jg, .int js]))], [(ja, .inr (6, [.ref jan]))], [(jan, .inl (cy 1, 81, .inl jaf))]]) := by
  unfold fX1_leftOperand at hR
  refine YM.ofI (cc := cX1_leftOperand) (maxL := 5) (ret := (some .int)) (by decide +kernel) rfl (Nat.le_of_ble_eq_true rfl) [(0, .ref j), (1, .int i1), (2, .int i2)] rfl rfl (fun p e s m args below meth c A H0 Q C hnm ret => ?_)
  refine xr_iload_n (n := 1) (j := 1) C dX1_leftOperand_0 rfl rfl ?_
  refine xr_aload_n (n := 2) (j := 0) C dX1_leftOperand_1 rfl rfl ?_
  refine xr_get (n := 5) C 0 rfl rfl 2 (by decide) in_X1 u_113 rfl (v := .int jr) rfl dX1_leftOperand_2 rfl ?_
  refine xr_icmp_ge (tgt := 18) (n := 8) C dX1_leftOperand_5 rfl rfl (fun c_1 => ?_) (fun c_1 => ?_)
  · replace hR := yf_t c_1 hR
    refine xr_iconst (n := 19) (v := 0) C dX1_leftOperand_18 rfl rfl ?_
    refine xr_istore_n (n := 20) C [(3, .int 0), (0, .ref j), (1, .int i1), (2, .int i2)] dX1_leftOperand_19 (by decide) rfl rfl ?_
    refine xr_iconst (n := 21) (v := 0) C dX1_leftOperand_20 rfl rfl ?_
    refine xr_istore (n := 23) C [(4, .int 0), (3, .int 0), (0, .ref j), (1, .int i1), (2, .int i2)] dX1_leftOperand_21 (by decide) rfl rfl ?_
    refine xr_lv (lv' := [(0, .ref j), (2, .int i2), (3, .int 0), (4, .int 0)]) [2, 4, 1, 0] rfl ?_
    obtain ⟨b_2, hb_2, hR⟩ := yf_b hR
    have K_2 : X p l e (yR 2 0 0) s m args below meth c D A H0 5 Q [[(j, .inr (3, [.ref ja, .ref jb, .int jr, .int jk, .int jc, .int jg, .int js]))], [(ja, .inr (6, [.ref jan]))], [(jan, .inl (cy 1, 81, .inl jaf))]] 0 0 [(3, .int b_2.1)] 51 [] := by
      refine xr_iload_n (n := 52) (j := 0) C dX1_leftOperand_51 rfl rfl ?_
      obtain rfl := Option.some.inj hR
      exact ret b_2.1 ⟨rfl, rfl⟩ (Nat.le_of_ble_eq_true rfl) (Nat.le_of_ble_eq_true rfl) dX1_leftOperand_52
    refine y_loop (P := fun s_2 => X p l e (yR 2 0 0) s m args below meth c D A H0 5 Q [[(j, .inr (3, [.ref ja, .ref jb, .int jr, .int jk, .int jc, .int jg, .int js]))], [(ja, .inr (6, [.ref jan]))], [(jan, .inl (cy 1, 81, .inl jaf))]] 0 0 [(0, .ref j), (2, .int i2), (3, .int s_2.1), (4, .int s_2.2)] 23 []) ?_ _ _ hb_2
    intro s_2 o_2 ho_2 hk_2 hx_2
    refine xr_iload (n := 25) (j := 3) C dX1_leftOperand_23 rfl rfl ?_
    refine xr_aload_n (n := 26) (j := 0) C dX1_leftOperand_25 rfl rfl ?_
    refine xr_get (n := 29) C 0 rfl rfl 2 (by decide) in_X1 u_113 rfl (v := .int jr) rfl dX1_leftOperand_26 rfl ?_
    refine xr_icmp_ge (tgt := 51) (n := 32) C dX1_leftOperand_29 rfl rfl (fun c_3 => ?_) (fun c_3 => ?_)
    · replace ho_2 := yf_t c_3 ho_2
      refine xr_lv (lv' := [(3, .int s_2.1)]) [2] rfl ?_
      have e_4 := hx_2 _ (Option.some.inj ho_2).symm
      subst e_4
      exact K_2
    · replace ho_2 := yf_f c_3 ho_2
      refine xr_iload_n (n := 33) (j := 2) C dX1_leftOperand_32 rfl rfl ?_
      refine xr_aload_n (n := 34) (j := 0) C dX1_leftOperand_33 rfl rfl ?_
      refine xr_get (n := 37) C 0 rfl rfl 0 (by decide) in_X1 u_109 rfl (v := .ref ja) rfl dX1_leftOperand_34 rfl ?_
      refine xr_iload (n := 39) (j := 3) C dX1_leftOperand_37 rfl rfl ?_
      refine xr_iload_n (n := 40) (j := 1) C dX1_leftOperand_39 rfl rfl ?_
      obtain ⟨x_5, hx_5, ho_2⟩ := yf_b ho_2
      refine xr_callVp (n := 43) (As := [.int s_2.2, .int i2]) (rest := [.int s_2.1]) C (kX4_get l D cy (h := ja) (hn := jan) (hf := jaf) (row := s_2.2) (col := i2) hx_5) mX4_get u_340 u_341 u_342 1 rfl rfl [1, 2] [0] rfl rfl rfl rfl rfl (Nat.le_of_ble_eq_true rfl) (Nat.le_of_ble_eq_true rfl) (Nat.le_of_ble_eq_true rfl) (Nat.le_of_ble_eq_true rfl) (Nat.le_of_ble_eq_true rfl) dX1_leftOperand_40 rfl (fun _ _ hp => hp.2) (fun v_6 hp_8 => ?_)
      obtain ⟨rfl, -⟩ := hp_8
      refine xr_st (st' := [.int x_5, .int s_2.1]) rfl ?_
      refine xr_iadd (n := 44) C dX1_leftOperand_43 rfl ?_
      refine xr_istore_n (n := 45) C [(3, .int (s_2.1 + x_5)), (0, .ref j), (2, .int i2), (4, .int s_2.2)] dX1_leftOperand_44 (by decide) rfl rfl ?_
      refine xr_iinc (j := 3) (v := s_2.2 + 1) (n := 48) C [(4, .int (s_2.2 + 1)), (3, .int (s_2.1 + x_5)), (0, .ref j), (2, .int i2)] dX1_leftOperand_45 rfl rfl (by decide) rfl rfl ?_
      refine xr_goto (tgt := 23) C dX1_leftOperand_48 rfl ?_
      refine xr_lv (lv' := [(0, .ref j), (2, .int i2), (3, .int (s_2.1 + x_5)), (4, .int (s_2.2 + 1))]) [2, 3, 1, 0] rfl ?_
      exact hk_2 _ (Option.some.inj ho_2).symm
  · replace hR := yf_f c_1 hR
    refine xr_aload_n (n := 9) (j := 0) C dX1_leftOperand_8 rfl rfl ?_
    refine xr_get (n := 12) C 0 rfl rfl 0 (by decide) in_X1 u_109 rfl (v := .ref ja) rfl dX1_leftOperand_9 rfl ?_
    refine xr_iload_n (n := 13) (j := 1) C dX1_leftOperand_12 rfl rfl ?_
    refine xr_iload_n (n := 14) (j := 2) C dX1_leftOperand_13 rfl rfl ?_
    obtain ⟨x_9, hx_9, hR⟩ := yf_b hR
    refine xr_callVp (n := 17) (As := [.int i1, .int i2]) (rest := []) C (kX4_get l D cy (h := ja) (hn := jan) (hf := jaf) (row := i1) (col := i2) hx_9) mX4_get u_340 u_341 u_342 1 rfl rfl [1, 2] [0] rfl rfl rfl rfl rfl (Nat.le_of_ble_eq_true rfl) (Nat.le_of_ble_eq_true rfl) (Nat.le_of_ble_eq_true rfl) (Nat.le_of_ble_eq_true rfl) (Nat.le_of_ble_eq_true rfl) dX1_leftOperand_14 rfl (fun _ _ hp => hp.2) (fun v_10 hp_12 => ?_)
    obtain ⟨rfl, -⟩ := hp_12
    refine xr_st (st' := [.int x_9]) rfl ?_
    obtain rfl := Option.some.inj hR
    exact ret x_9 ⟨rfl, rfl⟩ (Nat.le_of_ble_eq_true rfl) (Nat.le_of_ble_eq_true rfl) dX1_leftOperand_17
theorem dX1_topOperand_0 : decode cX1_topOperand 0 = .ok (.iload_n 2, 1) := by decide +kernel
theorem dX1_topOperand_1 : decode cX1_topOperand 1 = .ok (.aload_n 0, 1) := by decide +kernel
theorem dX1_topOperand_2 : decode cX1_topOperand 2 = .ok (.getfield 28, 3) := by decide +kernel
theorem dX1_topOperand_5 : decode cX1_topOperand 5 = .ok (.if_icmp .ge 13, 3) := by decide +kernel
theorem dX1_topOperand_8 : decode cX1_topOperand 8 = .ok (.aload_n 0, 1) := by decide +kernel
theorem dX1_topOperand_9 : decode cX1_topOperand 9 = .ok (.getfield 18, 3) := by decide +kernel
theorem dX1_topOperand_12 : decode cX1_topOperand 12 = .ok (.iload_n 1, 1) := by decide +kernel
theorem dX1_topOperand_13 : decode cX1_topOperand 13 = .ok (.iload_n 2, 1) := by decide +kernel
theorem dX1_topOperand_14 : decode cX1_topOperand 14 = .ok (.invokevirtual 46, 3) := by decide +kernel
theorem dX1_topOperand_17 : decode cX1_topOperand 17 = .ok (.ireturn, 1) := by decide +kernel
theorem dX1_topOperand_18 : decode cX1_topOperand 18 = .ok (.iconst 0, 1) := by decide +kernel
theorem dX1_topOperand_19 : decode cX1_topOperand 19 = .ok (.istore_n 3, 1) := by decide +kernel
theorem dX1_topOperand_20 : decode cX1_topOperand 20 = .ok (.iconst 0, 1) := by decide +kernel
theorem dX1_topOperand_21 : decode cX1_topOperand 21 = .ok (.istore 4, 2) := by decide +kernel
theorem dX1_topOperand_23 : decode cX1_topOperand 23 = .ok (.iload 4, 2) := by decide +kernel
theorem dX1_topOperand_25 : decode cX1_topOperand 25 = .ok (.aload_n 0, 1) := by decide +kernel
theorem dX1_topOperand_26 : decode cX1_topOperand 26 = .ok (.getfield 28, 3) := by decide +kernel
theorem dX1_topOperand_29 : decode cX1_topOperand 29 = .ok (.if_icmp .ge 22, 3) := by decide +kernel
theorem dX1_topOperand_32 : decode cX1_topOperand 32 = .ok (.iload_n 3, 1) := by decide +kernel
theorem dX1_topOperand_33 : decode cX1_topOperand 33 = .ok (.aload_n 0, 1) := by decide +kernel
theorem dX1_topOperand_34 : decode cX1_topOperand 34 = .ok (.getfield 18, 3) := by decide +kernel
theorem dX1_topOperand_37 : decode cX1_topOperand 37 = .ok (.iload_n 1, 1) := by decide +kernel
theorem dX1_topOperand_38 : decode cX1_topOperand 38 = .ok (.iload 4, 2) := by decide +kernel
theorem dX1_topOperand_40 : decode cX1_topOperand 40 = .ok (.invokevirtual 46, 3) := by decide +kernel
theorem dX1_topOperand_43 : decode cX1_topOperand 43 = .ok (.iadd, 1) := by decide +kernel
theorem dX1_topOperand_44 : decode cX1_topOperand 44 = .ok (.istore_n 3, 1) := by decide +kernel
theorem dX1_topOperand_45 : decode cX1_topOperand 45 = .ok (.iinc 4 1, 3) := by decide +kernel
theorem dX1_topOperand_48 : decode cX1_topOperand 48 = .ok (.goto (-25), 3) := by decide +kernel
theorem dX1_topOperand_51 : decode cX1_topOperand 51 = .ok (.iload_n 3, 1) := by decide +kernel
theorem dX1_topOperand_52 : decode cX1_topOperand 52 = .ok (.ireturn, 1) := by decide +kernel
def fX1_topOperand (jc : Int32) (jbf : Nat → Int32) (i1 : Int32) (i2 : Int32) : Option (Int32) := (if jc ≤ i2 then ((wl (S := Int32 × Int32) (B := Int32 × Int32) (fun s_2 => (if jc ≤ s_2.2 then some (.inr (s_2.1, s_2.2)) else ((fX4_get jbf i1 s_2.2).bind fun x_5 => some (.inl (s_2.1 + x_5, s_2.2 + 1))))) yFuel (0, 0)).bind fun b_2 => some b_2.1) else ((fX4_get jbf i1 i2).bind fun x_9 => some x_9))
abbrev hX1_topOperand : Cond := .code yX1_topOperand cX1_topOperand 5 (some .int)
theorem mX1_topOperand : yM yX1_topOperand hX1_topOperand 2 := ⟨u_539, u_58, by decide +kernel, by decide +kernel, by decide +kernel⟩
set_option maxHeartbeats 4000000 in
set_option maxRecDepth 100000 in
theorem kX1_topOperand (l : Launch) (D : va_G) (cy : Nat → ClassId) (j : Nat) (ja : Nat) (jb : Nat) (jr : Int32) (jk : Int32) (jc : Int32) (jg : Int32) (js : Int32) (jbn : Nat) (jbf : Nat → Int32) (i1 : Int32) (i2 : Int32) {res : Int32} (hR : fX1_topOperand jc jbf i1 i2 = some res) : YM l D cy yX1_topOperand hX1_topOperand 2 0 0 [.ref j, .int i1, .int i2] [[(j, .inr (3, [.ref ja, .ref jb, .int jr, .int jk, .int jc, .int jg, .int js]))], [(jb, .inr (6, [.ref jbn]))], [(jbn, .inl (cy 1, 81, .inl jbf))]] (fun v u => v = some (.int res) ∧ u = [[(j, .inr (3, [.ref ja, .ref jb, .int jr, .int jk, .int jc, .int jg, .int js]))], [(jb, .inr (6, [.ref jbn]))], [(jbn, .inl (cy 1, 81, .inl jbf))]]) := by
  unfold fX1_topOperand at hR
  refine YM.ofI (cc := cX1_topOperand) (maxL := 5) (ret := (some .int)) (by decide +kernel) rfl (Nat.le_of_ble_eq_true rfl) [(0, .ref j), (1, .int i1), (2, .int i2)] rfl rfl (fun p e s m args below meth c A H0 Q C hnm ret => ?_)
  refine xr_iload_n (n := 1) (j := 2) C dX1_topOperand_0 rfl rfl ?_
  refine xr_aload_n (n := 2) (j := 0) C dX1_topOperand_1 rfl rfl ?_
  refine xr_get (n := 5) C 0 rfl rfl 4 (by decide) in_X1 u_117 rfl (v := .int jc) rfl dX1_topOperand_2 rfl ?_
  refine xr_icmp_ge (tgt := 18) (n := 8) C dX1_topOperand_5 rfl rfl (fun c_1 => ?_) (fun c_1 => ?_)
  · replace hR := yf_t c_1 hR
    refine xr_iconst (n := 19) (v := 0) C dX1_topOperand_18 rfl rfl ?_
    refine xr_istore_n (n := 20) C [(3, .int 0), (0, .ref j), (1, .int i1), (2, .int i2)] dX1_topOperand_19 (by decide) rfl rfl ?_
    refine xr_iconst (n := 21) (v := 0) C dX1_topOperand_20 rfl rfl ?_
    refine xr_istore (n := 23) C [(4, .int 0), (3, .int 0), (0, .ref j), (1, .int i1), (2, .int i2)] dX1_topOperand_21 (by decide) rfl rfl ?_
    refine xr_lv (lv' := [(0, .ref j), (1, .int i1), (3, .int 0), (4, .int 0)]) [2, 3, 1, 0] rfl ?_
    obtain ⟨b_2, hb_2, hR⟩ := yf_b hR
    have K_2 : X p l e (yR 2 0 0) s m args below meth c D A H0 5 Q [[(j, .inr (3, [.ref ja, .ref jb, .int jr, .int jk, .int jc, .int jg, .int js]))], [(jb, .inr (6, [.ref jbn]))], [(jbn, .inl (cy 1, 81, .inl jbf))]] 0 0 [(3, .int b_2.1)] 51 [] := by
      refine xr_iload_n (n := 52) (j := 0) C dX1_topOperand_51 rfl rfl ?_
      obtain rfl := Option.some.inj hR
      exact ret b_2.1 ⟨rfl, rfl⟩ (Nat.le_of_ble_eq_true rfl) (Nat.le_of_ble_eq_true rfl) dX1_topOperand_52
    refine y_loop (P := fun s_2 => X p l e (yR 2 0 0) s m args below meth c D A H0 5 Q [[(j, .inr (3, [.ref ja, .ref jb, .int jr, .int jk, .int jc, .int jg, .int js]))], [(jb, .inr (6, [.ref jbn]))], [(jbn, .inl (cy 1, 81, .inl jbf))]] 0 0 [(0, .ref j), (1, .int i1), (3, .int s_2.1), (4, .int s_2.2)] 23 []) ?_ _ _ hb_2
    intro s_2 o_2 ho_2 hk_2 hx_2
    refine xr_iload (n := 25) (j := 3) C dX1_topOperand_23 rfl rfl ?_
    refine xr_aload_n (n := 26) (j := 0) C dX1_topOperand_25 rfl rfl ?_
    refine xr_get (n := 29) C 0 rfl rfl 4 (by decide) in_X1 u_117 rfl (v := .int jc) rfl dX1_topOperand_26 rfl ?_
    refine xr_icmp_ge (tgt := 51) (n := 32) C dX1_topOperand_29 rfl rfl (fun c_3 => ?_) (fun c_3 => ?_)
    · replace ho_2 := yf_t c_3 ho_2
      refine xr_lv (lv' := [(3, .int s_2.1)]) [2] rfl ?_
      have e_4 := hx_2 _ (Option.some.inj ho_2).symm
      subst e_4
      exact K_2
    · replace ho_2 := yf_f c_3 ho_2
      refine xr_iload_n (n := 33) (j := 2) C dX1_topOperand_32 rfl rfl ?_
      refine xr_aload_n (n := 34) (j := 0) C dX1_topOperand_33 rfl rfl ?_
      refine xr_get (n := 37) C 0 rfl rfl 1 (by decide) in_X1 u_111 rfl (v := .ref jb) rfl dX1_topOperand_34 rfl ?_
      refine xr_iload_n (n := 38) (j := 1) C dX1_topOperand_37 rfl rfl ?_
      refine xr_iload (n := 40) (j := 3) C dX1_topOperand_38 rfl rfl ?_
      obtain ⟨x_5, hx_5, ho_2⟩ := yf_b ho_2
      refine xr_callVp (n := 43) (As := [.int i1, .int s_2.2]) (rest := [.int s_2.1]) C (kX4_get l D cy (h := jb) (hn := jbn) (hf := jbf) (row := i1) (col := s_2.2) hx_5) mX4_get u_340 u_341 u_342 1 rfl rfl [1, 2] [0] rfl rfl rfl rfl rfl (Nat.le_of_ble_eq_true rfl) (Nat.le_of_ble_eq_true rfl) (Nat.le_of_ble_eq_true rfl) (Nat.le_of_ble_eq_true rfl) (Nat.le_of_ble_eq_true rfl) dX1_topOperand_40 rfl (fun _ _ hp => hp.2) (fun v_6 hp_8 => ?_)
      obtain ⟨rfl, -⟩ := hp_8
      refine xr_st (st' := [.int x_5, .int s_2.1]) rfl ?_
      refine xr_iadd (n := 44) C dX1_topOperand_43 rfl ?_
      refine xr_istore_n (n := 45) C [(3, .int (s_2.1 + x_5)), (0, .ref j), (1, .int i1), (4, .int s_2.2)] dX1_topOperand_44 (by decide) rfl rfl ?_
      refine xr_iinc (j := 3) (v := s_2.2 + 1) (n := 48) C [(4, .int (s_2.2 + 1)), (3, .int (s_2.1 + x_5)), (0, .ref j), (1, .int i1)] dX1_topOperand_45 rfl rfl (by decide) rfl rfl ?_
      refine xr_goto (tgt := 23) C dX1_topOperand_48 rfl ?_
      refine xr_lv (lv' := [(0, .ref j), (1, .int i1), (3, .int (s_2.1 + x_5)), (4, .int (s_2.2 + 1))]) [2, 3, 1, 0] rfl ?_
      exact hk_2 _ (Option.some.inj ho_2).symm
  · replace hR := yf_f c_1 hR
    refine xr_aload_n (n := 9) (j := 0) C dX1_topOperand_8 rfl rfl ?_
    refine xr_get (n := 12) C 0 rfl rfl 1 (by decide) in_X1 u_111 rfl (v := .ref jb) rfl dX1_topOperand_9 rfl ?_
    refine xr_iload_n (n := 13) (j := 1) C dX1_topOperand_12 rfl rfl ?_
    refine xr_iload_n (n := 14) (j := 2) C dX1_topOperand_13 rfl rfl ?_
    obtain ⟨x_9, hx_9, hR⟩ := yf_b hR
    refine xr_callVp (n := 17) (As := [.int i1, .int i2]) (rest := []) C (kX4_get l D cy (h := jb) (hn := jbn) (hf := jbf) (row := i1) (col := i2) hx_9) mX4_get u_340 u_341 u_342 1 rfl rfl [1, 2] [0] rfl rfl rfl rfl rfl (Nat.le_of_ble_eq_true rfl) (Nat.le_of_ble_eq_true rfl) (Nat.le_of_ble_eq_true rfl) (Nat.le_of_ble_eq_true rfl) (Nat.le_of_ble_eq_true rfl) dX1_topOperand_14 rfl (fun _ _ hp => hp.2) (fun v_10 hp_12 => ?_)
    obtain ⟨rfl, -⟩ := hp_12
    refine xr_st (st' := [.int x_9]) rfl ?_
    obtain rfl := Option.some.inj hR
    exact ret x_9 ⟨rfl, rfl⟩ (Nat.le_of_ble_eq_true rfl) (Nat.le_of_ble_eq_true rfl) dX1_topOperand_17
theorem dX1_firstSum_0 : decode cX1_firstSum 0 = .ok (.aload_n 0, 1) := by decide +kernel
theorem dX1_firstSum_1 : decode cX1_firstSum 1 = .ok (.getfield 31, 3) := by decide +kernel
theorem dX1_firstSum_4 : decode cX1_firstSum 4 = .ok (.lookupswitch 36 #[(1, 28), (2, 32)], 28) := by decide +kernel
theorem dX1_firstSum_32 : decode cX1_firstSum 32 = .ok (.sipush 999, 3) := by decide +kernel
theorem dX1_firstSum_35 : decode cX1_firstSum 35 = .ok (.ireturn, 1) := by decide +kernel
theorem dX1_firstSum_36 : decode cX1_firstSum 36 = .ok (.sipush (-999), 3) := by decide +kernel
theorem dX1_firstSum_39 : decode cX1_firstSum 39 = .ok (.ireturn, 1) := by decide +kernel
theorem dX1_firstSum_40 : decode cX1_firstSum 40 = .ok (.iconst 0, 1) := by decide +kernel
theorem dX1_firstSum_41 : decode cX1_firstSum 41 = .ok (.ireturn, 1) := by decide +kernel
def fX1_firstSum (jg : Int32) : Option (Int32) := (if jg = 1 then some 999 else (if jg = 2 then some (-999) else some 0))
abbrev hX1_firstSum : Cond := .code yX1_firstSum cX1_firstSum 1 (some .int)
theorem mX1_firstSum : yM yX1_firstSum hX1_firstSum 0 := ⟨u_527, u_58, by decide +kernel, by decide +kernel, by decide +kernel⟩
set_option maxHeartbeats 4000000 in
set_option maxRecDepth 100000 in
theorem kX1_firstSum (l : Launch) (D : va_G) (cy : Nat → ClassId) (j : Nat) (ja : Nat) (jb : Nat) (jr : Int32) (jk : Int32) (jc : Int32) (jg : Int32) (js : Int32) {res : Int32} (hR : fX1_firstSum jg = some res) : YM l D cy yX1_firstSum hX1_firstSum 1 0 0 [.ref j] [[(j, .inr (3, [.ref ja, .ref jb, .int jr, .int jk, .int jc, .int jg, .int js]))]] (fun v u => v = some (.int res) ∧ u = [[(j, .inr (3, [.ref ja, .ref jb, .int jr, .int jk, .int jc, .int jg, .int js]))]]) := by
  unfold fX1_firstSum at hR
  refine YM.ofI (cc := cX1_firstSum) (maxL := 1) (ret := (some .int)) (by decide +kernel) rfl (Nat.le_of_ble_eq_true rfl) [(0, .ref j)] rfl rfl (fun p e s m args below meth c A H0 Q C hnm ret => ?_)
  refine xr_aload_n (n := 1) (j := 0) C dX1_firstSum_0 rfl rfl ?_
  refine xr_get (n := 4) C 0 rfl rfl 5 (by decide) in_X1 u_119 rfl (v := .int jg) rfl dX1_firstSum_1 rfl ?_
  by_cases c_1 : jg = 1
  · replace hR := yf_t c_1 hR
    refine xr_lookup (off := 28) (tgt := 32) C dX1_firstSum_4 (by decide) (by rw [c_1]; decide) rfl ?_
    refine xr_sipush (n := 35) (v := 999) C dX1_firstSum_32 rfl rfl ?_
    obtain rfl := Option.some.inj hR
    exact ret 999 ⟨rfl, rfl⟩ (Nat.le_of_ble_eq_true rfl) (Nat.le_of_ble_eq_true rfl) dX1_firstSum_35
  replace hR := yf_f c_1 hR
  by_cases c_2 : jg = 2
  · replace hR := yf_t c_2 hR
    refine xr_lookup (off := 32) (tgt := 36) C dX1_firstSum_4 (by decide) (by rw [c_2]; decide) rfl ?_
    refine xr_sipush (n := 39) (v := -999) C dX1_firstSum_36 rfl rfl ?_
    obtain rfl := Option.some.inj hR
    exact ret (-999) ⟨rfl, rfl⟩ (Nat.le_of_ble_eq_true rfl) (Nat.le_of_ble_eq_true rfl) dX1_firstSum_39
  replace hR := yf_f c_2 hR
  refine xr_lookup (off := 36) (tgt := 40) C dX1_firstSum_4 (by decide) ((lv_osw c_1 (by decide)).trans ((lv_osw c_2 (by decide)).trans rfl)) rfl ?_
  refine xr_iconst (n := 41) (v := 0) C dX1_firstSum_40 rfl rfl ?_
  obtain rfl := Option.some.inj hR
  exact ret 0 ⟨rfl, rfl⟩ (Nat.le_of_ble_eq_true rfl) (Nat.le_of_ble_eq_true rfl) dX1_firstSum_41
theorem dX1_bringIn_0 : decode cX1_bringIn 0 = .ok (.aload_n 0, 1) := by decide +kernel
theorem dX1_bringIn_1 : decode cX1_bringIn 1 = .ok (.iload_n 2, 1) := by decide +kernel
theorem dX1_bringIn_2 : decode cX1_bringIn 2 = .ok (.iload_n 3, 1) := by decide +kernel
theorem dX1_bringIn_3 : decode cX1_bringIn 3 = .ok (.invokevirtual 50, 3) := by decide +kernel
theorem dX1_bringIn_6 : decode cX1_bringIn 6 = .ok (.istore 5, 2) := by decide +kernel
theorem dX1_bringIn_8 : decode cX1_bringIn 8 = .ok (.aload_n 0, 1) := by decide +kernel
theorem dX1_bringIn_9 : decode cX1_bringIn 9 = .ok (.iload_n 3, 1) := by decide +kernel
theorem dX1_bringIn_10 : decode cX1_bringIn 10 = .ok (.iload 4, 2) := by decide +kernel
theorem dX1_bringIn_12 : decode cX1_bringIn 12 = .ok (.invokevirtual 53, 3) := by decide +kernel
theorem dX1_bringIn_15 : decode cX1_bringIn 15 = .ok (.istore 6, 2) := by decide +kernel
theorem dX1_bringIn_17 : decode cX1_bringIn 17 = .ok (.aload_n 0, 1) := by decide +kernel
theorem dX1_bringIn_18 : decode cX1_bringIn 18 = .ok (.getfield 31, 3) := by decide +kernel
theorem dX1_bringIn_21 : decode cX1_bringIn 21 = .ok (.lookupswitch 49 #[(1, 27), (2, 37)], 27) := by decide +kernel
theorem dX1_bringIn_48 : decode cX1_bringIn 48 = .ok (.iload_n 1, 1) := by decide +kernel
theorem dX1_bringIn_49 : decode cX1_bringIn 49 = .ok (.iload 5, 2) := by decide +kernel
theorem dX1_bringIn_51 : decode cX1_bringIn 51 = .ok (.iload 6, 2) := by decide +kernel
theorem dX1_bringIn_53 : decode cX1_bringIn 53 = .ok (.iadd, 1) := by decide +kernel
theorem dX1_bringIn_54 : decode cX1_bringIn 54 = .ok (.invokestatic 56, 3) := by decide +kernel
theorem dX1_bringIn_57 : decode cX1_bringIn 57 = .ok (.ireturn, 1) := by decide +kernel
theorem dX1_bringIn_58 : decode cX1_bringIn 58 = .ok (.iload_n 1, 1) := by decide +kernel
theorem dX1_bringIn_59 : decode cX1_bringIn 59 = .ok (.iload 5, 2) := by decide +kernel
theorem dX1_bringIn_61 : decode cX1_bringIn 61 = .ok (.iload 6, 2) := by decide +kernel
theorem dX1_bringIn_63 : decode cX1_bringIn 63 = .ok (.invokestatic 56, 3) := by decide +kernel
theorem dX1_bringIn_66 : decode cX1_bringIn 66 = .ok (.invokestatic 61, 3) := by decide +kernel
theorem dX1_bringIn_69 : decode cX1_bringIn 69 = .ok (.ireturn, 1) := by decide +kernel
theorem dX1_bringIn_70 : decode cX1_bringIn 70 = .ok (.iload_n 1, 1) := by decide +kernel
theorem dX1_bringIn_71 : decode cX1_bringIn 71 = .ok (.iload 5, 2) := by decide +kernel
theorem dX1_bringIn_73 : decode cX1_bringIn 73 = .ok (.iload 6, 2) := by decide +kernel
theorem dX1_bringIn_75 : decode cX1_bringIn 75 = .ok (.imul, 1) := by decide +kernel
theorem dX1_bringIn_76 : decode cX1_bringIn 76 = .ok (.iadd, 1) := by decide +kernel
theorem dX1_bringIn_77 : decode cX1_bringIn 77 = .ok (.ireturn, 1) := by decide +kernel
def fX1_bringIn (jr : Int32) (jc : Int32) (jg : Int32) (jaf : Nat → Int32) (jbf : Nat → Int32) (i0 : Int32) (i1 : Int32) (it : Int32) (i2 : Int32) : Option (Int32) := ((fX1_leftOperand jr jaf i1 it).bind fun x_1 => ((fX1_topOperand jc jbf it i2).bind fun x_5 => (if jg = 1 then some (xn_min i0 (x_1 + x_5)) else (if jg = 2 then some (xn_max i0 (xn_min x_1 x_5)) else some (i0 + (x_1 * x_5))))))
abbrev hX1_bringIn : Cond := .code yX1_bringIn cX1_bringIn 7 (some .int)
theorem mX1_bringIn : yM yX1_bringIn hX1_bringIn 4 := ⟨u_531, u_58, by decide +kernel, by decide +kernel, by decide +kernel⟩
set_option maxHeartbeats 4000000 in
set_option maxRecDepth 100000 in
theorem kX1_bringIn (l : Launch) (D : va_G) (cy : Nat → ClassId) (j : Nat) (ja : Nat) (jb : Nat) (jr : Int32) (jk : Int32) (jc : Int32) (jg : Int32) (js : Int32) (jan : Nat) (jaf : Nat → Int32) (jbn : Nat) (jbf : Nat → Int32) (i0 : Int32) (i1 : Int32) (it : Int32) (i2 : Int32) {res : Int32} (hR : fX1_bringIn jr jc jg jaf jbf i0 i1 it i2 = some res) : YM l D cy yX1_bringIn hX1_bringIn 3 0 0 [.ref j, .int i0, .int i1, .int it, .int i2] [[(j, .inr (3, [.ref ja, .ref jb, .int jr, .int jk, .int jc, .int jg, .int js]))], [(ja, .inr (6, [.ref jan]))], [(jan, .inl (cy 1, 81, .inl jaf))], [(jb, .inr (6, [.ref jbn]))], [(jbn, .inl (cy 1, 81, .inl jbf))]] (fun v u => v = some (.int res) ∧ u = [[(j, .inr (3, [.ref ja, .ref jb, .int jr, .int jk, .int jc, .int jg, .int js]))], [(ja, .inr (6, [.ref jan]))], [(jan, .inl (cy 1, 81, .inl jaf))], [(jb, .inr (6, [.ref jbn]))], [(jbn, .inl (cy 1, 81, .inl jbf))]]) := by
  unfold fX1_bringIn at hR
  refine YM.ofI (cc := cX1_bringIn) (maxL := 7) (ret := (some .int)) (by decide +kernel) rfl (Nat.le_of_ble_eq_true rfl) [(0, .ref j), (1, .int i0), (2, .int i1), (3, .int it), (4, .int i2)] rfl rfl (fun p e s m args below meth c A H0 Q C hnm ret => ?_)
  refine xr_aload_n (n := 1) (j := 0) C dX1_bringIn_0 rfl rfl ?_
  refine xr_iload_n (n := 2) (j := 2) C dX1_bringIn_1 rfl rfl ?_
  refine xr_iload_n (n := 3) (j := 3) C dX1_bringIn_2 rfl rfl ?_
  obtain ⟨x_1, hx_1, hR⟩ := yf_b hR
  refine xr_callVp (n := 6) (As := [.int i1, .int it]) (rest := []) C (kX1_leftOperand l D cy (j := j) (ja := ja) (jb := jb) (jr := jr) (jk := jk) (jc := jc) (jg := jg) (js := js) (jan := jan) (jaf := jaf) (i1 := i1) (i2 := it) hx_1) mX1_leftOperand u_532 u_533 u_534 0 rfl rfl [0, 1, 2] [3, 4] rfl rfl rfl rfl rfl (Nat.le_of_ble_eq_true rfl) (Nat.le_of_ble_eq_true rfl) (Nat.le_of_ble_eq_true rfl) (Nat.le_of_ble_eq_true rfl) (Nat.le_of_ble_eq_true rfl) dX1_bringIn_3 rfl (fun _ _ hp => hp.2) (fun v_2 hp_4 => ?_)
  obtain ⟨rfl, -⟩ := hp_4
  refine xr_st (st' := [.int x_1]) rfl ?_
  refine xr_istore (n := 8) C [(5, .int x_1), (0, .ref j), (1, .int i0), (2, .int i1), (3, .int it), (4, .int i2)] dX1_bringIn_6 (by decide) rfl rfl ?_
  refine xr_aload_n (n := 9) (j := 1) C dX1_bringIn_8 rfl rfl ?_
  refine xr_iload_n (n := 10) (j := 4) C dX1_bringIn_9 rfl rfl ?_
  refine xr_iload (n := 12) (j := 5) C dX1_bringIn_10 rfl rfl ?_
  obtain ⟨x_5, hx_5, hR⟩ := yf_b hR
  refine xr_callVp (n := 15) (As := [.int it, .int i2]) (rest := []) C (kX1_topOperand l D cy (j := j) (ja := ja) (jb := jb) (jr := jr) (jk := jk) (jc := jc) (jg := jg) (js := js) (jbn := jbn) (jbf := jbf) (i1 := it) (i2 := i2) hx_5) mX1_topOperand u_536 u_537 u_538 0 rfl rfl [0, 3, 4] [1, 2] rfl rfl rfl rfl rfl (Nat.le_of_ble_eq_true rfl) (Nat.le_of_ble_eq_true rfl) (Nat.le_of_ble_eq_true rfl) (Nat.le_of_ble_eq_true rfl) (Nat.le_of_ble_eq_true rfl) dX1_bringIn_12 rfl (fun _ _ hp => hp.2) (fun v_6 hp_8 => ?_)
  obtain ⟨rfl, -⟩ := hp_8
  refine xr_st (st' := [.int x_5]) rfl ?_
  refine xr_istore (n := 17) C [(6, .int x_5), (5, .int x_1), (0, .ref j), (1, .int i0), (2, .int i1), (3, .int it), (4, .int i2)] dX1_bringIn_15 (by decide) rfl rfl ?_
  refine xr_aload_n (n := 18) (j := 2) C dX1_bringIn_17 rfl rfl ?_
  refine xr_get (n := 21) C 0 rfl rfl 5 (by decide) in_X1 u_119 rfl (v := .int jg) rfl dX1_bringIn_18 rfl ?_
  by_cases c_9 : jg = 1
  · replace hR := yf_t c_9 hR
    refine xr_lookup (off := 27) (tgt := 48) C dX1_bringIn_21 (by decide) (by rw [c_9]; decide) rfl ?_
    refine xr_iload_n (n := 49) (j := 3) C dX1_bringIn_48 rfl rfl ?_
    refine xr_iload (n := 51) (j := 1) C dX1_bringIn_49 rfl rfl ?_
    refine xr_iload (n := 53) (j := 0) C dX1_bringIn_51 rfl rfl ?_
    refine xr_iadd (n := 54) C dX1_bringIn_53 rfl ?_
    refine xr_mmin (n := 57) C u_540 u_438 u_74 u_439 (Nat.le_of_ble_eq_true rfl) (Nat.le_of_ble_eq_true rfl) (Nat.le_of_ble_eq_true rfl) (Nat.le_of_ble_eq_true rfl) dX1_bringIn_54 rfl ?_
    obtain rfl := Option.some.inj hR
    exact ret (xn_min i0 (x_1 + x_5)) ⟨rfl, rfl⟩ (Nat.le_of_ble_eq_true rfl) (Nat.le_of_ble_eq_true rfl) dX1_bringIn_57
  replace hR := yf_f c_9 hR
  by_cases c_10 : jg = 2
  · replace hR := yf_t c_10 hR
    refine xr_lookup (off := 37) (tgt := 58) C dX1_bringIn_21 (by decide) (by rw [c_10]; decide) rfl ?_
    refine xr_iload_n (n := 59) (j := 3) C dX1_bringIn_58 rfl rfl ?_
    refine xr_iload (n := 61) (j := 1) C dX1_bringIn_59 rfl rfl ?_
    refine xr_iload (n := 63) (j := 0) C dX1_bringIn_61 rfl rfl ?_
    refine xr_mmin (n := 66) C u_540 u_438 u_74 u_439 (Nat.le_of_ble_eq_true rfl) (Nat.le_of_ble_eq_true rfl) (Nat.le_of_ble_eq_true rfl) (Nat.le_of_ble_eq_true rfl) dX1_bringIn_63 rfl ?_
    refine xr_mmax (n := 69) C u_541 u_445 u_74 u_446 (Nat.le_of_ble_eq_true rfl) (Nat.le_of_ble_eq_true rfl) (Nat.le_of_ble_eq_true rfl) (Nat.le_of_ble_eq_true rfl) dX1_bringIn_66 rfl ?_
    obtain rfl := Option.some.inj hR
    exact ret (xn_max i0 (xn_min x_1 x_5)) ⟨rfl, rfl⟩ (Nat.le_of_ble_eq_true rfl) (Nat.le_of_ble_eq_true rfl) dX1_bringIn_69
  replace hR := yf_f c_10 hR
  refine xr_lookup (off := 49) (tgt := 70) C dX1_bringIn_21 (by decide) ((lv_osw c_9 (by decide)).trans ((lv_osw c_10 (by decide)).trans rfl)) rfl ?_
  refine xr_iload_n (n := 71) (j := 3) C dX1_bringIn_70 rfl rfl ?_
  refine xr_iload (n := 73) (j := 1) C dX1_bringIn_71 rfl rfl ?_
  refine xr_iload (n := 75) (j := 0) C dX1_bringIn_73 rfl rfl ?_
  refine xr_imul (n := 76) C dX1_bringIn_75 rfl ?_
  refine xr_iadd (n := 77) C dX1_bringIn_76 rfl ?_
  obtain rfl := Option.some.inj hR
  exact ret (i0 + (x_1 * x_5)) ⟨rfl, rfl⟩ (Nat.le_of_ble_eq_true rfl) (Nat.le_of_ble_eq_true rfl) dX1_bringIn_77
