theorem u_62 : Cond.methodLink RX4 1 objectInit ∈ yU := yu 62 (by decide +kernel) (by decide +kernel)
theorem u_49 : Cond.instanceMethod objectInit ∈ yU := yu 49 (by decide +kernel) (by decide +kernel)
theorem u_50 : Cond.code objectInit ⟨#[0xb1]⟩ 1 none ∈ yU := yu 50 (by decide +kernel) (by decide +kernel)
theorem u_67 : Cond.arrayClass .int ∈ yU := yu 67 (by decide +kernel) (by decide +kernel)
theorem u_61 : Cond.code yX4_init cX4_init 1 none ∈ yU := yu 61 (by decide +kernel) (by decide +kernel)
theorem u_56 : Cond.methodLink RX1 3 objectInit ∈ yU := yu 56 (by decide +kernel) (by decide +kernel)
theorem u_57 : Cond.classLink RX1 9 RX4 ∈ yU := yu 57 (by decide +kernel) (by decide +kernel)
theorem u_58 : Cond.instantiable RX4 1 ∈ yU := yu 58 (by decide +kernel) (by decide +kernel)
theorem u_60 : Cond.instanceMethod yX4_init ∈ yU := yu 60 (by decide +kernel) (by decide +kernel)
theorem u_55 : Cond.code yX1_init cX1_init 1 none ∈ yU := yu 55 (by decide +kernel) (by decide +kernel)
theorem u_103 : Cond.methodLink RX0 3 objectInit ∈ yU := yu 103 (by decide +kernel) (by decide +kernel)
theorem u_104 : Cond.classLink RX0 9 RX4 ∈ yU := yu 104 (by decide +kernel) (by decide +kernel)
theorem u_102 : Cond.code yX0_init cX0_init 1 none ∈ yU := yu 102 (by decide +kernel) (by decide +kernel)
theorem u_129 : Cond.methodLink RX3 3 objectInit ∈ yU := yu 129 (by decide +kernel) (by decide +kernel)
theorem u_130 : Cond.classLink RX3 9 RX4 ∈ yU := yu 130 (by decide +kernel) (by decide +kernel)
theorem u_128 : Cond.code yX3_init cX3_init 1 none ∈ yU := yu 128 (by decide +kernel) (by decide +kernel)
theorem u_163 : Cond.methodLink RX2 1 objectInit ∈ yU := yu 163 (by decide +kernel) (by decide +kernel)
theorem u_162 : Cond.code yX2_init cX2_init 1 none ∈ yU := yu 162 (by decide +kernel) (by decide +kernel)
theorem u_155 : Cond.methodLink RX5 3 objectInit ∈ yU := yu 155 (by decide +kernel) (by decide +kernel)
theorem u_156 : Cond.classLink RX5 9 RX1 ∈ yU := yu 156 (by decide +kernel) (by decide +kernel)
theorem u_52 : Cond.instantiable RX1 7 ∈ yU := yu 52 (by decide +kernel) (by decide +kernel)
theorem u_54 : Cond.instanceMethod yX1_init ∈ yU := yu 54 (by decide +kernel) (by decide +kernel)
theorem u_158 : Cond.classLink RX5 18 RX2 ∈ yU := yu 158 (by decide +kernel) (by decide +kernel)
theorem u_159 : Cond.instantiable RX2 10 ∈ yU := yu 159 (by decide +kernel) (by decide +kernel)
theorem u_161 : Cond.instanceMethod yX2_init ∈ yU := yu 161 (by decide +kernel) (by decide +kernel)
theorem u_154 : Cond.code yX5_init cX5_init 1 none ∈ yU := yu 154 (by decide +kernel) (by decide +kernel)
theorem dX4_init_0 : decode cX4_init 0 = .ok (.aload_n 0, 1) := by decide +kernel
theorem dX4_init_1 : decode cX4_init 1 = .ok (.invokespecial 1, 3) := by decide +kernel
theorem dX4_init_4 : decode cX4_init 4 = .ok (.aload_n 0, 1) := by decide +kernel
theorem dX4_init_5 : decode cX4_init 5 = .ok (.bipush 81, 2) := by decide +kernel
theorem dX4_init_7 : decode cX4_init 7 = .ok (.newarray .int, 2) := by decide +kernel
theorem dX4_init_9 : decode cX4_init 9 = .ok (.putfield 9, 3) := by decide +kernel
theorem dX4_init_12 : decode cX4_init 12 = .ok (.return_, 1) := by decide +kernel
def fX4_init  : Option (Unit) := some ()
abbrev hX4_init : Cond := .code yX4_init cX4_init 1 none
theorem mX4_init : yM yX4_init hX4_init 0 := ⟨u_61, u_30, by decide +kernel, by decide +kernel, by decide +kernel⟩
set_option maxHeartbeats 4000000 in
set_option maxRecDepth 100000 in
theorem kX4_init (l : Launch) (D : va_G) (cy : Nat → ClassId) (h : Nat) {res : Unit} (hR : fX4_init  = some res) : YM l D cy yX4_init hX4_init 1 1 81 [.ref h] [[(h, .inr (4, [.null]))]] (fun v u => ∃ hn : Nat, v = none ∧ u = [[(h, .inr (4, [.ref hn]))], [(hn, .inl (cy 1, 81, .inl (fun _ => 0)))]]) := by
  unfold fX4_init at hR
  refine YM.ofV (cc := cX4_init) (maxL := 1) (ret := none) (by decide +kernel) rfl (Nat.le_of_ble_eq_true rfl) [(0, .ref h)] rfl rfl (fun p e s m args below meth c A H0 Q C hnm ret => ?_)
  refine xr_aload_n (n := 1) (j := 0) C dX4_init_0 rfl rfl ?_
  refine xr_objInit (n := 4) C u_62 u_49 u_50 (Nat.le_of_ble_eq_true rfl) (Nat.le_of_ble_eq_true rfl) (Nat.le_of_ble_eq_true rfl) dX4_init_1 rfl ?_
  refine xr_aload_n (n := 5) (j := 0) C dX4_init_4 rfl rfl ?_
  refine xr_bipush (n := 7) (v := 81) C dX4_init_5 rfl rfl ?_
  refine xr_newa (n := 9) C u_67 (by decide) (N' := 81) (by decide) (by decide) (Nat.le_of_ble_eq_true rfl) (Nat.le_of_ble_eq_true rfl) dX4_init_7 rfl (fun q_1 => ?_)
  refine xr_eq (bs' := [[(h, .inr (4, [.null]))], [(q_1, .inl (cy 1, 81, .inl (fun _ => 0)))]]) rfl ?_
  refine xr_putF (n := 12) C 0 rfl rfl 0 (by decide) in_X4 tyX4 tyX4_ok nmX4 u_63 rfl rfl hnm rfl rfl rfl (Nat.le_of_ble_eq_true rfl) [[(h, .inr (4, [.ref q_1]))], [(q_1, .inl (cy 1, 81, .inl (fun _ => 0)))]] rfl rfl dX4_init_9 ?_
  obtain rfl := Option.some.inj hR
  exact ret ⟨q_1, rfl, rfl⟩ (Nat.le_of_ble_eq_true rfl) (Nat.le_of_ble_eq_true rfl) dX4_init_12
theorem dX1_init_0 : decode cX1_init 0 = .ok (.aload_n 0, 1) := by decide +kernel
theorem dX1_init_1 : decode cX1_init 1 = .ok (.invokespecial 3, 3) := by decide +kernel
theorem dX1_init_4 : decode cX1_init 4 = .ok (.aload_n 0, 1) := by decide +kernel
theorem dX1_init_5 : decode cX1_init 5 = .ok (.new 9, 3) := by decide +kernel
theorem dX1_init_8 : decode cX1_init 8 = .ok (.dup, 1) := by decide +kernel
theorem dX1_init_9 : decode cX1_init 9 = .ok (.invokespecial 11, 3) := by decide +kernel
theorem dX1_init_12 : decode cX1_init 12 = .ok (.putfield 12, 3) := by decide +kernel
theorem dX1_init_15 : decode cX1_init 15 = .ok (.aload_n 0, 1) := by decide +kernel
theorem dX1_init_16 : decode cX1_init 16 = .ok (.new 9, 3) := by decide +kernel
theorem dX1_init_19 : decode cX1_init 19 = .ok (.dup, 1) := by decide +kernel
theorem dX1_init_20 : decode cX1_init 20 = .ok (.invokespecial 11, 3) := by decide +kernel
theorem dX1_init_23 : decode cX1_init 23 = .ok (.putfield 18, 3) := by decide +kernel
theorem dX1_init_26 : decode cX1_init 26 = .ok (.aload_n 0, 1) := by decide +kernel
theorem dX1_init_27 : decode cX1_init 27 = .ok (.iconst 2, 1) := by decide +kernel
theorem dX1_init_28 : decode cX1_init 28 = .ok (.putfield 21, 3) := by decide +kernel
theorem dX1_init_31 : decode cX1_init 31 = .ok (.aload_n 0, 1) := by decide +kernel
theorem dX1_init_32 : decode cX1_init 32 = .ok (.iconst 2, 1) := by decide +kernel
theorem dX1_init_33 : decode cX1_init 33 = .ok (.putfield 25, 3) := by decide +kernel
theorem dX1_init_36 : decode cX1_init 36 = .ok (.aload_n 0, 1) := by decide +kernel
theorem dX1_init_37 : decode cX1_init 37 = .ok (.iconst 2, 1) := by decide +kernel
theorem dX1_init_38 : decode cX1_init 38 = .ok (.putfield 28, 3) := by decide +kernel
theorem dX1_init_41 : decode cX1_init 41 = .ok (.aload_n 0, 1) := by decide +kernel
theorem dX1_init_42 : decode cX1_init 42 = .ok (.iconst 0, 1) := by decide +kernel
theorem dX1_init_43 : decode cX1_init 43 = .ok (.putfield 31, 3) := by decide +kernel
theorem dX1_init_46 : decode cX1_init 46 = .ok (.aload_n 0, 1) := by decide +kernel
theorem dX1_init_47 : decode cX1_init 47 = .ok (.iconst 0, 1) := by decide +kernel
theorem dX1_init_48 : decode cX1_init 48 = .ok (.putfield 34, 3) := by decide +kernel
theorem dX1_init_51 : decode cX1_init 51 = .ok (.return_, 1) := by decide +kernel
def fX1_init  : Option (Unit) := ((fX4_init).bind fun x_2 => ((fX4_init).bind fun x_8 => some ()))
abbrev hX1_init : Cond := .code yX1_init cX1_init 1 none
theorem mX1_init : yM yX1_init hX1_init 0 := ⟨u_55, u_29, by decide +kernel, by decide +kernel, by decide +kernel⟩
set_option maxHeartbeats 4000000 in
set_option maxRecDepth 100000 in
theorem kX1_init (l : Launch) (D : va_G) (cy : Nat → ClassId) (j : Nat) {res : Unit} (hR : fX1_init  = some res) : YM l D cy yX1_init hX1_init 2 4 164 [.ref j] [[(j, .inr (1, [.null, .null, .int 0, .int 0, .int 0, .int 0, .int 0]))]] (fun v u => ∃ ja : Nat, ∃ jb : Nat, ∃ jan : Nat, ∃ jbn : Nat, v = none ∧ u = [[(j, .inr (1, [.ref ja, .ref jb, .int 2, .int 2, .int 2, .int 0, .int 0]))], [(ja, .inr (4, [.ref jan]))], [(jan, .inl (cy 1, 81, .inl (fun _ => 0)))], [(jb, .inr (4, [.ref jbn]))], [(jbn, .inl (cy 1, 81, .inl (fun _ => 0)))]]) := by
  unfold fX1_init at hR
  refine YM.ofV (cc := cX1_init) (maxL := 1) (ret := none) (by decide +kernel) rfl (Nat.le_of_ble_eq_true rfl) [(0, .ref j)] rfl rfl (fun p e s m args below meth c A H0 Q C hnm ret => ?_)
  refine xr_aload_n (n := 1) (j := 0) C dX1_init_0 rfl rfl ?_
  refine xr_objInit (n := 4) C u_56 u_49 u_50 (Nat.le_of_ble_eq_true rfl) (Nat.le_of_ble_eq_true rfl) (Nat.le_of_ble_eq_true rfl) dX1_init_1 rfl ?_
  refine xr_aload_n (n := 5) (j := 0) C dX1_init_4 rfl rfl ?_
  refine xr_new (n := 8) (ci := 4) C tyX4 tyX4_ok in_X4 u_57 u_58 u_30 rfl [.null] (by decide) (Nat.le_of_ble_eq_true rfl) (Nat.le_of_ble_eq_true rfl) dX1_init_5 rfl (fun q_1 => ?_)
  refine xr_eq (bs' := [[(j, .inr (1, [.null, .null, .int 0, .int 0, .int 0, .int 0, .int 0]))], [(q_1, .inr (4, [.null]))]]) rfl ?_
  refine xr_dup (n := 9) C dX1_init_8 rfl rfl ?_
  obtain ⟨x_2, hx_2, hR⟩ := yf_b hR
  refine xr_callIN (n := 12) (As := []) (rest := [.ref q_1, .ref j]) C (kX4_init l D cy (h := q_1) hx_2) mX4_init (host := RX6) (List.mem_of_getElem? (i := 1) rfl) u_60 rfl 2 [1] [0] rfl (by decide +kernel) rfl rfl rfl rfl (Nat.le_of_ble_eq_true rfl) (Nat.le_of_ble_eq_true rfl) (Nat.le_of_ble_eq_true rfl) (Nat.le_of_ble_eq_true rfl) (Nat.le_of_ble_eq_true rfl) dX1_init_9 rfl (fun v_3 u_4 hp_5 => ?_)
  obtain ⟨q_6, rfl, rfl⟩ := hp_5
  refine xr_perm C 3 [2, 0, 1] [] [[(j, .inr (1, [.null, .null, .int 0, .int 0, .int 0, .int 0, .int 0]))], [(q_1, .inr (4, [.ref q_6]))], [(q_6, .inl (cy 1, 81, .inl (fun _ => 0)))]] rfl (by decide +kernel) rfl ?_
  refine xr_putF (n := 15) C 0 rfl rfl 0 (by decide) in_X1 tyX1 tyX1_ok nmX1 u_68 rfl rfl hnm rfl rfl rfl (Nat.le_of_ble_eq_true rfl) [[(j, .inr (1, [.ref q_1, .null, .int 0, .int 0, .int 0, .int 0, .int 0]))], [(q_1, .inr (4, [.ref q_6]))], [(q_6, .inl (cy 1, 81, .inl (fun _ => 0)))]] rfl rfl dX1_init_12 ?_
  refine xr_aload_n (n := 16) (j := 0) C dX1_init_15 rfl rfl ?_
  refine xr_new (n := 19) (ci := 4) C tyX4 tyX4_ok in_X4 u_57 u_58 u_30 rfl [.null] (by decide) (Nat.le_of_ble_eq_true rfl) (Nat.le_of_ble_eq_true rfl) dX1_init_16 rfl (fun q_7 => ?_)
  refine xr_eq (bs' := [[(j, .inr (1, [.ref q_1, .null, .int 0, .int 0, .int 0, .int 0, .int 0]))], [(q_1, .inr (4, [.ref q_6]))], [(q_6, .inl (cy 1, 81, .inl (fun _ => 0)))], [(q_7, .inr (4, [.null]))]]) rfl ?_
  refine xr_dup (n := 20) C dX1_init_19 rfl rfl ?_
  obtain ⟨x_8, hx_8, hR⟩ := yf_b hR
  refine xr_callIN (n := 23) (As := []) (rest := [.ref q_7, .ref j]) C (kX4_init l D cy (h := q_7) hx_8) mX4_init (host := RX6) (List.mem_of_getElem? (i := 1) rfl) u_60 rfl 4 [3] [0, 1, 2] rfl (by decide +kernel) rfl rfl rfl rfl (Nat.le_of_ble_eq_true rfl) (Nat.le_of_ble_eq_true rfl) (Nat.le_of_ble_eq_true rfl) (Nat.le_of_ble_eq_true rfl) (Nat.le_of_ble_eq_true rfl) dX1_init_20 rfl (fun v_9 u_10 hp_11 => ?_)
  obtain ⟨q_12, rfl, rfl⟩ := hp_11
  refine xr_perm C 5 [2, 3, 4, 0, 1] [] [[(j, .inr (1, [.ref q_1, .null, .int 0, .int 0, .int 0, .int 0, .int 0]))], [(q_1, .inr (4, [.ref q_6]))], [(q_6, .inl (cy 1, 81, .inl (fun _ => 0)))], [(q_7, .inr (4, [.ref q_12]))], [(q_12, .inl (cy 1, 81, .inl (fun _ => 0)))]] rfl (by decide +kernel) rfl ?_
  refine xr_putF (n := 26) C 0 rfl rfl 1 (by decide) in_X1 tyX1 tyX1_ok nmX1 u_70 rfl rfl hnm rfl rfl rfl (Nat.le_of_ble_eq_true rfl) [[(j, .inr (1, [.ref q_1, .ref q_7, .int 0, .int 0, .int 0, .int 0, .int 0]))], [(q_1, .inr (4, [.ref q_6]))], [(q_6, .inl (cy 1, 81, .inl (fun _ => 0)))], [(q_7, .inr (4, [.ref q_12]))], [(q_12, .inl (cy 1, 81, .inl (fun _ => 0)))]] rfl rfl dX1_init_23 ?_
  refine xr_aload_n (n := 27) (j := 0) C dX1_init_26 rfl rfl ?_
  refine xr_iconst (n := 28) (v := 2) C dX1_init_27 rfl rfl ?_
  refine xr_put (n := 31) C 0 rfl rfl 2 (by decide) in_X1 tyX1 tyX1_ok nmX1 u_72 rfl rfl rfl rfl (Nat.le_of_ble_eq_true rfl) [[(j, .inr (1, [.ref q_1, .ref q_7, .int 2, .int 0, .int 0, .int 0, .int 0]))], [(q_1, .inr (4, [.ref q_6]))], [(q_6, .inl (cy 1, 81, .inl (fun _ => 0)))], [(q_7, .inr (4, [.ref q_12]))], [(q_12, .inl (cy 1, 81, .inl (fun _ => 0)))]] rfl rfl dX1_init_28 ?_
  refine xr_aload_n (n := 32) (j := 0) C dX1_init_31 rfl rfl ?_
  refine xr_iconst (n := 33) (v := 2) C dX1_init_32 rfl rfl ?_
  refine xr_put (n := 36) C 0 rfl rfl 3 (by decide) in_X1 tyX1 tyX1_ok nmX1 u_74 rfl rfl rfl rfl (Nat.le_of_ble_eq_true rfl) [[(j, .inr (1, [.ref q_1, .ref q_7, .int 2, .int 2, .int 0, .int 0, .int 0]))], [(q_1, .inr (4, [.ref q_6]))], [(q_6, .inl (cy 1, 81, .inl (fun _ => 0)))], [(q_7, .inr (4, [.ref q_12]))], [(q_12, .inl (cy 1, 81, .inl (fun _ => 0)))]] rfl rfl dX1_init_33 ?_
  refine xr_aload_n (n := 37) (j := 0) C dX1_init_36 rfl rfl ?_
  refine xr_iconst (n := 38) (v := 2) C dX1_init_37 rfl rfl ?_
  refine xr_put (n := 41) C 0 rfl rfl 4 (by decide) in_X1 tyX1 tyX1_ok nmX1 u_76 rfl rfl rfl rfl (Nat.le_of_ble_eq_true rfl) [[(j, .inr (1, [.ref q_1, .ref q_7, .int 2, .int 2, .int 2, .int 0, .int 0]))], [(q_1, .inr (4, [.ref q_6]))], [(q_6, .inl (cy 1, 81, .inl (fun _ => 0)))], [(q_7, .inr (4, [.ref q_12]))], [(q_12, .inl (cy 1, 81, .inl (fun _ => 0)))]] rfl rfl dX1_init_38 ?_
  refine xr_aload_n (n := 42) (j := 0) C dX1_init_41 rfl rfl ?_
  refine xr_iconst (n := 43) (v := 0) C dX1_init_42 rfl rfl ?_
  refine xr_put (n := 46) C 0 rfl rfl 5 (by decide) in_X1 tyX1 tyX1_ok nmX1 u_78 rfl rfl rfl rfl (Nat.le_of_ble_eq_true rfl) [[(j, .inr (1, [.ref q_1, .ref q_7, .int 2, .int 2, .int 2, .int 0, .int 0]))], [(q_1, .inr (4, [.ref q_6]))], [(q_6, .inl (cy 1, 81, .inl (fun _ => 0)))], [(q_7, .inr (4, [.ref q_12]))], [(q_12, .inl (cy 1, 81, .inl (fun _ => 0)))]] rfl rfl dX1_init_43 ?_
  refine xr_aload_n (n := 47) (j := 0) C dX1_init_46 rfl rfl ?_
  refine xr_iconst (n := 48) (v := 0) C dX1_init_47 rfl rfl ?_
  refine xr_put (n := 51) C 0 rfl rfl 6 (by decide) in_X1 tyX1 tyX1_ok nmX1 u_80 rfl rfl (by decide) (by decide) (Nat.le_of_ble_eq_true rfl) [[(j, .inr (1, [.ref q_1, .ref q_7, .int 2, .int 2, .int 2, .int 0, .int 0]))], [(q_1, .inr (4, [.ref q_6]))], [(q_6, .inl (cy 1, 81, .inl (fun _ => 0)))], [(q_7, .inr (4, [.ref q_12]))], [(q_12, .inl (cy 1, 81, .inl (fun _ => 0)))]] rfl rfl dX1_init_48 ?_
  obtain rfl := Option.some.inj hR
  exact ret ⟨q_1, q_7, q_6, q_12, rfl, rfl⟩ (Nat.le_of_ble_eq_true rfl) (Nat.le_of_ble_eq_true rfl) dX1_init_51
theorem dX0_init_0 : decode cX0_init 0 = .ok (.aload_n 0, 1) := by decide +kernel
theorem dX0_init_1 : decode cX0_init 1 = .ok (.invokespecial 3, 3) := by decide +kernel
theorem dX0_init_4 : decode cX0_init 4 = .ok (.aload_n 0, 1) := by decide +kernel
theorem dX0_init_5 : decode cX0_init 5 = .ok (.new 9, 3) := by decide +kernel
theorem dX0_init_8 : decode cX0_init 8 = .ok (.dup, 1) := by decide +kernel
theorem dX0_init_9 : decode cX0_init 9 = .ok (.invokespecial 11, 3) := by decide +kernel
theorem dX0_init_12 : decode cX0_init 12 = .ok (.putfield 12, 3) := by decide +kernel
theorem dX0_init_15 : decode cX0_init 15 = .ok (.aload_n 0, 1) := by decide +kernel
theorem dX0_init_16 : decode cX0_init 16 = .ok (.new 9, 3) := by decide +kernel
theorem dX0_init_19 : decode cX0_init 19 = .ok (.dup, 1) := by decide +kernel
theorem dX0_init_20 : decode cX0_init 20 = .ok (.invokespecial 11, 3) := by decide +kernel
theorem dX0_init_23 : decode cX0_init 23 = .ok (.putfield 18, 3) := by decide +kernel
theorem dX0_init_26 : decode cX0_init 26 = .ok (.aload_n 0, 1) := by decide +kernel
theorem dX0_init_27 : decode cX0_init 27 = .ok (.iconst 0, 1) := by decide +kernel
theorem dX0_init_28 : decode cX0_init 28 = .ok (.putfield 21, 3) := by decide +kernel
theorem dX0_init_31 : decode cX0_init 31 = .ok (.aload_n 0, 1) := by decide +kernel
theorem dX0_init_32 : decode cX0_init 32 = .ok (.iconst 0, 1) := by decide +kernel
theorem dX0_init_33 : decode cX0_init 33 = .ok (.putfield 25, 3) := by decide +kernel
theorem dX0_init_36 : decode cX0_init 36 = .ok (.return_, 1) := by decide +kernel
def fX0_init  : Option (Unit) := ((fX4_init).bind fun x_2 => ((fX4_init).bind fun x_8 => some ()))
abbrev hX0_init : Cond := .code yX0_init cX0_init 1 none
theorem mX0_init : yM yX0_init hX0_init 0 := ⟨u_102, u_31, by decide +kernel, by decide +kernel, by decide +kernel⟩
set_option maxHeartbeats 4000000 in
set_option maxRecDepth 100000 in
theorem kX0_init (l : Launch) (D : va_G) (cy : Nat → ClassId) (w : Nat) {res : Unit} (hR : fX0_init  = some res) : YM l D cy yX0_init hX0_init 2 4 164 [.ref w] [[(w, .inr (0, [.null, .null, .int 0, .int 0]))]] (fun v u => ∃ wu : Nat, ∃ wm : Nat, ∃ wun : Nat, ∃ wmn : Nat, v = none ∧ u = [[(w, .inr (0, [.ref wu, .ref wm, .int 0, .int 0]))], [(wu, .inr (4, [.ref wun]))], [(wun, .inl (cy 1, 81, .inl (fun _ => 0)))], [(wm, .inr (4, [.ref wmn]))], [(wmn, .inl (cy 1, 81, .inl (fun _ => 0)))]]) := by
  unfold fX0_init at hR
  refine YM.ofV (cc := cX0_init) (maxL := 1) (ret := none) (by decide +kernel) rfl (Nat.le_of_ble_eq_true rfl) [(0, .ref w)] rfl rfl (fun p e s m args below meth c A H0 Q C hnm ret => ?_)
  refine xr_aload_n (n := 1) (j := 0) C dX0_init_0 rfl rfl ?_
  refine xr_objInit (n := 4) C u_103 u_49 u_50 (Nat.le_of_ble_eq_true rfl) (Nat.le_of_ble_eq_true rfl) (Nat.le_of_ble_eq_true rfl) dX0_init_1 rfl ?_
  refine xr_aload_n (n := 5) (j := 0) C dX0_init_4 rfl rfl ?_
  refine xr_new (n := 8) (ci := 4) C tyX4 tyX4_ok in_X4 u_104 u_58 u_30 rfl [.null] (by decide) (Nat.le_of_ble_eq_true rfl) (Nat.le_of_ble_eq_true rfl) dX0_init_5 rfl (fun q_1 => ?_)
  refine xr_eq (bs' := [[(w, .inr (0, [.null, .null, .int 0, .int 0]))], [(q_1, .inr (4, [.null]))]]) rfl ?_
  refine xr_dup (n := 9) C dX0_init_8 rfl rfl ?_
  obtain ⟨x_2, hx_2, hR⟩ := yf_b hR
  refine xr_callIN (n := 12) (As := []) (rest := [.ref q_1, .ref w]) C (kX4_init l D cy (h := q_1) hx_2) mX4_init (host := RX6) (List.mem_of_getElem? (i := 11) rfl) u_60 rfl 2 [1] [0] rfl (by decide +kernel) rfl rfl rfl rfl (Nat.le_of_ble_eq_true rfl) (Nat.le_of_ble_eq_true rfl) (Nat.le_of_ble_eq_true rfl) (Nat.le_of_ble_eq_true rfl) (Nat.le_of_ble_eq_true rfl) dX0_init_9 rfl (fun v_3 u_4 hp_5 => ?_)
  obtain ⟨q_6, rfl, rfl⟩ := hp_5
  refine xr_perm C 3 [2, 0, 1] [] [[(w, .inr (0, [.null, .null, .int 0, .int 0]))], [(q_1, .inr (4, [.ref q_6]))], [(q_6, .inl (cy 1, 81, .inl (fun _ => 0)))]] rfl (by decide +kernel) rfl ?_
  refine xr_putF (n := 15) C 0 rfl rfl 0 (by decide) in_X0 tyX0 tyX0_ok nmX0 u_106 rfl rfl hnm rfl rfl rfl (Nat.le_of_ble_eq_true rfl) [[(w, .inr (0, [.ref q_1, .null, .int 0, .int 0]))], [(q_1, .inr (4, [.ref q_6]))], [(q_6, .inl (cy 1, 81, .inl (fun _ => 0)))]] rfl rfl dX0_init_12 ?_
  refine xr_aload_n (n := 16) (j := 0) C dX0_init_15 rfl rfl ?_
  refine xr_new (n := 19) (ci := 4) C tyX4 tyX4_ok in_X4 u_104 u_58 u_30 rfl [.null] (by decide) (Nat.le_of_ble_eq_true rfl) (Nat.le_of_ble_eq_true rfl) dX0_init_16 rfl (fun q_7 => ?_)
  refine xr_eq (bs' := [[(w, .inr (0, [.ref q_1, .null, .int 0, .int 0]))], [(q_1, .inr (4, [.ref q_6]))], [(q_6, .inl (cy 1, 81, .inl (fun _ => 0)))], [(q_7, .inr (4, [.null]))]]) rfl ?_
  refine xr_dup (n := 20) C dX0_init_19 rfl rfl ?_
  obtain ⟨x_8, hx_8, hR⟩ := yf_b hR
  refine xr_callIN (n := 23) (As := []) (rest := [.ref q_7, .ref w]) C (kX4_init l D cy (h := q_7) hx_8) mX4_init (host := RX6) (List.mem_of_getElem? (i := 11) rfl) u_60 rfl 4 [3] [0, 1, 2] rfl (by decide +kernel) rfl rfl rfl rfl (Nat.le_of_ble_eq_true rfl) (Nat.le_of_ble_eq_true rfl) (Nat.le_of_ble_eq_true rfl) (Nat.le_of_ble_eq_true rfl) (Nat.le_of_ble_eq_true rfl) dX0_init_20 rfl (fun v_9 u_10 hp_11 => ?_)
  obtain ⟨q_12, rfl, rfl⟩ := hp_11
  refine xr_perm C 5 [2, 3, 4, 0, 1] [] [[(w, .inr (0, [.ref q_1, .null, .int 0, .int 0]))], [(q_1, .inr (4, [.ref q_6]))], [(q_6, .inl (cy 1, 81, .inl (fun _ => 0)))], [(q_7, .inr (4, [.ref q_12]))], [(q_12, .inl (cy 1, 81, .inl (fun _ => 0)))]] rfl (by decide +kernel) rfl ?_
  refine xr_putF (n := 26) C 0 rfl rfl 1 (by decide) in_X0 tyX0 tyX0_ok nmX0 u_108 rfl rfl hnm rfl rfl rfl (Nat.le_of_ble_eq_true rfl) [[(w, .inr (0, [.ref q_1, .ref q_7, .int 0, .int 0]))], [(q_1, .inr (4, [.ref q_6]))], [(q_6, .inl (cy 1, 81, .inl (fun _ => 0)))], [(q_7, .inr (4, [.ref q_12]))], [(q_12, .inl (cy 1, 81, .inl (fun _ => 0)))]] rfl rfl dX0_init_23 ?_
  refine xr_aload_n (n := 27) (j := 0) C dX0_init_26 rfl rfl ?_
  refine xr_iconst (n := 28) (v := 0) C dX0_init_27 rfl rfl ?_
  refine xr_put (n := 31) C 0 rfl rfl 2 (by decide) in_X0 tyX0 tyX0_ok nmX0 u_111 rfl rfl rfl rfl (Nat.le_of_ble_eq_true rfl) [[(w, .inr (0, [.ref q_1, .ref q_7, .int 0, .int 0]))], [(q_1, .inr (4, [.ref q_6]))], [(q_6, .inl (cy 1, 81, .inl (fun _ => 0)))], [(q_7, .inr (4, [.ref q_12]))], [(q_12, .inl (cy 1, 81, .inl (fun _ => 0)))]] rfl rfl dX0_init_28 ?_
  refine xr_aload_n (n := 32) (j := 0) C dX0_init_31 rfl rfl ?_
  refine xr_iconst (n := 33) (v := 0) C dX0_init_32 rfl rfl ?_
  refine xr_put (n := 36) C 0 rfl rfl 3 (by decide) in_X0 tyX0 tyX0_ok nmX0 u_113 rfl rfl rfl rfl (Nat.le_of_ble_eq_true rfl) [[(w, .inr (0, [.ref q_1, .ref q_7, .int 0, .int 0]))], [(q_1, .inr (4, [.ref q_6]))], [(q_6, .inl (cy 1, 81, .inl (fun _ => 0)))], [(q_7, .inr (4, [.ref q_12]))], [(q_12, .inl (cy 1, 81, .inl (fun _ => 0)))]] rfl rfl dX0_init_33 ?_
  obtain rfl := Option.some.inj hR
  exact ret ⟨q_1, q_7, q_6, q_12, rfl, rfl⟩ (Nat.le_of_ble_eq_true rfl) (Nat.le_of_ble_eq_true rfl) dX0_init_36
theorem dX3_init_0 : decode cX3_init 0 = .ok (.aload_n 0, 1) := by decide +kernel
theorem dX3_init_1 : decode cX3_init 1 = .ok (.invokespecial 3, 3) := by decide +kernel
theorem dX3_init_4 : decode cX3_init 4 = .ok (.aload_n 0, 1) := by decide +kernel
theorem dX3_init_5 : decode cX3_init 5 = .ok (.new 9, 3) := by decide +kernel
theorem dX3_init_8 : decode cX3_init 8 = .ok (.dup, 1) := by decide +kernel
theorem dX3_init_9 : decode cX3_init 9 = .ok (.invokespecial 11, 3) := by decide +kernel
theorem dX3_init_12 : decode cX3_init 12 = .ok (.putfield 12, 3) := by decide +kernel
theorem dX3_init_15 : decode cX3_init 15 = .ok (.aload_n 0, 1) := by decide +kernel
theorem dX3_init_16 : decode cX3_init 16 = .ok (.iconst 0, 1) := by decide +kernel
theorem dX3_init_17 : decode cX3_init 17 = .ok (.putfield 18, 3) := by decide +kernel
theorem dX3_init_20 : decode cX3_init 20 = .ok (.aload_n 0, 1) := by decide +kernel
theorem dX3_init_21 : decode cX3_init 21 = .ok (.iconst 0, 1) := by decide +kernel
theorem dX3_init_22 : decode cX3_init 22 = .ok (.putfield 22, 3) := by decide +kernel
theorem dX3_init_25 : decode cX3_init 25 = .ok (.aload_n 0, 1) := by decide +kernel
theorem dX3_init_26 : decode cX3_init 26 = .ok (.iconst 0, 1) := by decide +kernel
theorem dX3_init_27 : decode cX3_init 27 = .ok (.putfield 25, 3) := by decide +kernel
theorem dX3_init_30 : decode cX3_init 30 = .ok (.return_, 1) := by decide +kernel
def fX3_init  : Option (Unit) := ((fX4_init).bind fun x_2 => some ())
abbrev hX3_init : Cond := .code yX3_init cX3_init 1 none
theorem mX3_init : yM yX3_init hX3_init 0 := ⟨u_128, u_32, by decide +kernel, by decide +kernel, by decide +kernel⟩
set_option maxHeartbeats 4000000 in
set_option maxRecDepth 100000 in
theorem kX3_init (l : Launch) (D : va_G) (cy : Nat → ClassId) (z : Nat) {res : Unit} (hR : fX3_init  = some res) : YM l D cy yX3_init hX3_init 2 2 82 [.ref z] [[(z, .inr (3, [.null, .int 0, .int 0, .int 0]))]] (fun v u => ∃ zv : Nat, ∃ zvn : Nat, v = none ∧ u = [[(z, .inr (3, [.ref zv, .int 0, .int 0, .int 0]))], [(zv, .inr (4, [.ref zvn]))], [(zvn, .inl (cy 1, 81, .inl (fun _ => 0)))]]) := by
  unfold fX3_init at hR
  refine YM.ofV (cc := cX3_init) (maxL := 1) (ret := none) (by decide +kernel) rfl (Nat.le_of_ble_eq_true rfl) [(0, .ref z)] rfl rfl (fun p e s m args below meth c A H0 Q C hnm ret => ?_)
  refine xr_aload_n (n := 1) (j := 0) C dX3_init_0 rfl rfl ?_
  refine xr_objInit (n := 4) C u_129 u_49 u_50 (Nat.le_of_ble_eq_true rfl) (Nat.le_of_ble_eq_true rfl) (Nat.le_of_ble_eq_true rfl) dX3_init_1 rfl ?_
  refine xr_aload_n (n := 5) (j := 0) C dX3_init_4 rfl rfl ?_
  refine xr_new (n := 8) (ci := 4) C tyX4 tyX4_ok in_X4 u_130 u_58 u_30 rfl [.null] (by decide) (Nat.le_of_ble_eq_true rfl) (Nat.le_of_ble_eq_true rfl) dX3_init_5 rfl (fun q_1 => ?_)
  refine xr_eq (bs' := [[(z, .inr (3, [.null, .int 0, .int 0, .int 0]))], [(q_1, .inr (4, [.null]))]]) rfl ?_
  refine xr_dup (n := 9) C dX3_init_8 rfl rfl ?_
  obtain ⟨x_2, hx_2, hR⟩ := yf_b hR
  refine xr_callIN (n := 12) (As := []) (rest := [.ref q_1, .ref z]) C (kX4_init l D cy (h := q_1) hx_2) mX4_init (host := RX6) (List.mem_of_getElem? (i := 18) rfl) u_60 rfl 2 [1] [0] rfl (by decide +kernel) rfl rfl rfl rfl (Nat.le_of_ble_eq_true rfl) (Nat.le_of_ble_eq_true rfl) (Nat.le_of_ble_eq_true rfl) (Nat.le_of_ble_eq_true rfl) (Nat.le_of_ble_eq_true rfl) dX3_init_9 rfl (fun v_3 u_4 hp_5 => ?_)
  obtain ⟨q_6, rfl, rfl⟩ := hp_5
  refine xr_perm C 3 [2, 0, 1] [] [[(z, .inr (3, [.null, .int 0, .int 0, .int 0]))], [(q_1, .inr (4, [.ref q_6]))], [(q_6, .inl (cy 1, 81, .inl (fun _ => 0)))]] rfl (by decide +kernel) rfl ?_
  refine xr_putF (n := 15) C 0 rfl rfl 0 (by decide) in_X3 tyX3 tyX3_ok nmX3 u_132 rfl rfl hnm rfl rfl rfl (Nat.le_of_ble_eq_true rfl) [[(z, .inr (3, [.ref q_1, .int 0, .int 0, .int 0]))], [(q_1, .inr (4, [.ref q_6]))], [(q_6, .inl (cy 1, 81, .inl (fun _ => 0)))]] rfl rfl dX3_init_12 ?_
  refine xr_aload_n (n := 16) (j := 0) C dX3_init_15 rfl rfl ?_
  refine xr_iconst (n := 17) (v := 0) C dX3_init_16 rfl rfl ?_
  refine xr_put (n := 20) C 0 rfl rfl 1 (by decide) in_X3 tyX3 tyX3_ok nmX3 u_135 rfl rfl rfl rfl (Nat.le_of_ble_eq_true rfl) [[(z, .inr (3, [.ref q_1, .int 0, .int 0, .int 0]))], [(q_1, .inr (4, [.ref q_6]))], [(q_6, .inl (cy 1, 81, .inl (fun _ => 0)))]] rfl rfl dX3_init_17 ?_
  refine xr_aload_n (n := 21) (j := 0) C dX3_init_20 rfl rfl ?_
  refine xr_iconst (n := 22) (v := 0) C dX3_init_21 rfl rfl ?_
  refine xr_put (n := 25) C 0 rfl rfl 2 (by decide) in_X3 tyX3 tyX3_ok nmX3 u_137 rfl rfl rfl rfl (Nat.le_of_ble_eq_true rfl) [[(z, .inr (3, [.ref q_1, .int 0, .int 0, .int 0]))], [(q_1, .inr (4, [.ref q_6]))], [(q_6, .inl (cy 1, 81, .inl (fun _ => 0)))]] rfl rfl dX3_init_22 ?_
  refine xr_aload_n (n := 26) (j := 0) C dX3_init_25 rfl rfl ?_
  refine xr_iconst (n := 27) (v := 0) C dX3_init_26 rfl rfl ?_
  refine xr_put (n := 30) C 0 rfl rfl 3 (by decide) in_X3 tyX3 tyX3_ok nmX3 u_139 rfl rfl (by decide) (by decide) (Nat.le_of_ble_eq_true rfl) [[(z, .inr (3, [.ref q_1, .int 0, .int 0, .int 0]))], [(q_1, .inr (4, [.ref q_6]))], [(q_6, .inl (cy 1, 81, .inl (fun _ => 0)))]] rfl rfl dX3_init_27 ?_
  obtain rfl := Option.some.inj hR
  exact ret ⟨q_1, q_6, rfl, rfl⟩ (Nat.le_of_ble_eq_true rfl) (Nat.le_of_ble_eq_true rfl) dX3_init_30
theorem dX2_init_0 : decode cX2_init 0 = .ok (.aload_n 0, 1) := by decide +kernel
theorem dX2_init_1 : decode cX2_init 1 = .ok (.invokespecial 1, 3) := by decide +kernel
theorem dX2_init_4 : decode cX2_init 4 = .ok (.aload_n 0, 1) := by decide +kernel
theorem dX2_init_5 : decode cX2_init 5 = .ok (.iconst 0, 1) := by decide +kernel
theorem dX2_init_6 : decode cX2_init 6 = .ok (.putfield 7, 3) := by decide +kernel
theorem dX2_init_9 : decode cX2_init 9 = .ok (.aload_n 0, 1) := by decide +kernel
theorem dX2_init_10 : decode cX2_init 10 = .ok (.iconst 0, 1) := by decide +kernel
theorem dX2_init_11 : decode cX2_init 11 = .ok (.putfield 13, 3) := by decide +kernel
theorem dX2_init_14 : decode cX2_init 14 = .ok (.aload_n 0, 1) := by decide +kernel
theorem dX2_init_15 : decode cX2_init 15 = .ok (.iconst 0, 1) := by decide +kernel
theorem dX2_init_16 : decode cX2_init 16 = .ok (.putfield 16, 3) := by decide +kernel
theorem dX2_init_19 : decode cX2_init 19 = .ok (.aload_n 0, 1) := by decide +kernel
theorem dX2_init_20 : decode cX2_init 20 = .ok (.iconst 0, 1) := by decide +kernel
theorem dX2_init_21 : decode cX2_init 21 = .ok (.putfield 19, 3) := by decide +kernel
theorem dX2_init_24 : decode cX2_init 24 = .ok (.aload_n 0, 1) := by decide +kernel
theorem dX2_init_25 : decode cX2_init 25 = .ok (.iconst 0, 1) := by decide +kernel
theorem dX2_init_26 : decode cX2_init 26 = .ok (.putfield 22, 3) := by decide +kernel
theorem dX2_init_29 : decode cX2_init 29 = .ok (.aload_n 0, 1) := by decide +kernel
theorem dX2_init_30 : decode cX2_init 30 = .ok (.iconst 0, 1) := by decide +kernel
theorem dX2_init_31 : decode cX2_init 31 = .ok (.putfield 25, 3) := by decide +kernel
theorem dX2_init_34 : decode cX2_init 34 = .ok (.aload_n 0, 1) := by decide +kernel
theorem dX2_init_35 : decode cX2_init 35 = .ok (.iconst 0, 1) := by decide +kernel
theorem dX2_init_36 : decode cX2_init 36 = .ok (.putfield 28, 3) := by decide +kernel
theorem dX2_init_39 : decode cX2_init 39 = .ok (.aload_n 0, 1) := by decide +kernel
theorem dX2_init_40 : decode cX2_init 40 = .ok (.iconst 0, 1) := by decide +kernel
theorem dX2_init_41 : decode cX2_init 41 = .ok (.putfield 31, 3) := by decide +kernel
theorem dX2_init_44 : decode cX2_init 44 = .ok (.aload_n 0, 1) := by decide +kernel
theorem dX2_init_45 : decode cX2_init 45 = .ok (.iconst 0, 1) := by decide +kernel
theorem dX2_init_46 : decode cX2_init 46 = .ok (.putfield 34, 3) := by decide +kernel
theorem dX2_init_49 : decode cX2_init 49 = .ok (.aload_n 0, 1) := by decide +kernel
theorem dX2_init_50 : decode cX2_init 50 = .ok (.iconst 0, 1) := by decide +kernel
theorem dX2_init_51 : decode cX2_init 51 = .ok (.putfield 37, 3) := by decide +kernel
theorem dX2_init_54 : decode cX2_init 54 = .ok (.return_, 1) := by decide +kernel
def fX2_init  : Option (Unit) := some ()
abbrev hX2_init : Cond := .code yX2_init cX2_init 1 none
theorem mX2_init : yM yX2_init hX2_init 0 := ⟨u_162, u_34, by decide +kernel, by decide +kernel, by decide +kernel⟩
set_option maxHeartbeats 4000000 in
set_option maxRecDepth 100000 in
theorem kX2_init (l : Launch) (D : va_G) (cy : Nat → ClassId) (y : Nat) {res : Unit} (hR : fX2_init  = some res) : YM l D cy yX2_init hX2_init 1 0 0 [.ref y] [[(y, .inr (2, [.int 0, .int 0, .int 0, .int 0, .int 0, .int 0, .int 0, .int 0, .int 0, .int 0]))]] (fun v u => v = none ∧ u = [[(y, .inr (2, [.int 0, .int 0, .int 0, .int 0, .int 0, .int 0, .int 0, .int 0, .int 0, .int 0]))]]) := by
  unfold fX2_init at hR
  refine YM.ofV (cc := cX2_init) (maxL := 1) (ret := none) (by decide +kernel) rfl (Nat.le_of_ble_eq_true rfl) [(0, .ref y)] rfl rfl (fun p e s m args below meth c A H0 Q C hnm ret => ?_)
  refine xr_aload_n (n := 1) (j := 0) C dX2_init_0 rfl rfl ?_
  refine xr_objInit (n := 4) C u_163 u_49 u_50 (Nat.le_of_ble_eq_true rfl) (Nat.le_of_ble_eq_true rfl) (Nat.le_of_ble_eq_true rfl) dX2_init_1 rfl ?_
  refine xr_aload_n (n := 5) (j := 0) C dX2_init_4 rfl rfl ?_
  refine xr_iconst (n := 6) (v := 0) C dX2_init_5 rfl rfl ?_
  refine xr_put (n := 9) C 0 rfl rfl 0 (by decide) in_X2 tyX2 tyX2_ok nmX2 u_164 rfl rfl rfl rfl (Nat.le_of_ble_eq_true rfl) [[(y, .inr (2, [.int 0, .int 0, .int 0, .int 0, .int 0, .int 0, .int 0, .int 0, .int 0, .int 0]))]] rfl rfl dX2_init_6 ?_
  refine xr_aload_n (n := 10) (j := 0) C dX2_init_9 rfl rfl ?_
  refine xr_iconst (n := 11) (v := 0) C dX2_init_10 rfl rfl ?_
  refine xr_put (n := 14) C 0 rfl rfl 1 (by decide) in_X2 tyX2 tyX2_ok nmX2 u_166 rfl rfl rfl rfl (Nat.le_of_ble_eq_true rfl) [[(y, .inr (2, [.int 0, .int 0, .int 0, .int 0, .int 0, .int 0, .int 0, .int 0, .int 0, .int 0]))]] rfl rfl dX2_init_11 ?_
  refine xr_aload_n (n := 15) (j := 0) C dX2_init_14 rfl rfl ?_
  refine xr_iconst (n := 16) (v := 0) C dX2_init_15 rfl rfl ?_
  refine xr_put (n := 19) C 0 rfl rfl 2 (by decide) in_X2 tyX2 tyX2_ok nmX2 u_168 rfl rfl rfl rfl (Nat.le_of_ble_eq_true rfl) [[(y, .inr (2, [.int 0, .int 0, .int 0, .int 0, .int 0, .int 0, .int 0, .int 0, .int 0, .int 0]))]] rfl rfl dX2_init_16 ?_
  refine xr_aload_n (n := 20) (j := 0) C dX2_init_19 rfl rfl ?_
  refine xr_iconst (n := 21) (v := 0) C dX2_init_20 rfl rfl ?_
  refine xr_put (n := 24) C 0 rfl rfl 3 (by decide) in_X2 tyX2 tyX2_ok nmX2 u_171 rfl rfl rfl rfl (Nat.le_of_ble_eq_true rfl) [[(y, .inr (2, [.int 0, .int 0, .int 0, .int 0, .int 0, .int 0, .int 0, .int 0, .int 0, .int 0]))]] rfl rfl dX2_init_21 ?_
  refine xr_aload_n (n := 25) (j := 0) C dX2_init_24 rfl rfl ?_
  refine xr_iconst (n := 26) (v := 0) C dX2_init_25 rfl rfl ?_
  refine xr_put (n := 29) C 0 rfl rfl 4 (by decide) in_X2 tyX2 tyX2_ok nmX2 u_174 rfl rfl rfl rfl (Nat.le_of_ble_eq_true rfl) [[(y, .inr (2, [.int 0, .int 0, .int 0, .int 0, .int 0, .int 0, .int 0, .int 0, .int 0, .int 0]))]] rfl rfl dX2_init_26 ?_
  refine xr_aload_n (n := 30) (j := 0) C dX2_init_29 rfl rfl ?_
  refine xr_iconst (n := 31) (v := 0) C dX2_init_30 rfl rfl ?_
  refine xr_put (n := 34) C 0 rfl rfl 5 (by decide) in_X2 tyX2 tyX2_ok nmX2 u_177 rfl rfl rfl rfl (Nat.le_of_ble_eq_true rfl) [[(y, .inr (2, [.int 0, .int 0, .int 0, .int 0, .int 0, .int 0, .int 0, .int 0, .int 0, .int 0]))]] rfl rfl dX2_init_31 ?_
  refine xr_aload_n (n := 35) (j := 0) C dX2_init_34 rfl rfl ?_
  refine xr_iconst (n := 36) (v := 0) C dX2_init_35 rfl rfl ?_
  refine xr_put (n := 39) C 0 rfl rfl 6 (by decide) in_X2 tyX2 tyX2_ok nmX2 u_179 rfl rfl rfl rfl (Nat.le_of_ble_eq_true rfl) [[(y, .inr (2, [.int 0, .int 0, .int 0, .int 0, .int 0, .int 0, .int 0, .int 0, .int 0, .int 0]))]] rfl rfl dX2_init_36 ?_
  refine xr_aload_n (n := 40) (j := 0) C dX2_init_39 rfl rfl ?_
  refine xr_iconst (n := 41) (v := 0) C dX2_init_40 rfl rfl ?_
  refine xr_put (n := 44) C 0 rfl rfl 7 (by decide) in_X2 tyX2 tyX2_ok nmX2 u_181 rfl rfl rfl rfl (Nat.le_of_ble_eq_true rfl) [[(y, .inr (2, [.int 0, .int 0, .int 0, .int 0, .int 0, .int 0, .int 0, .int 0, .int 0, .int 0]))]] rfl rfl dX2_init_41 ?_
  refine xr_aload_n (n := 45) (j := 0) C dX2_init_44 rfl rfl ?_
  refine xr_iconst (n := 46) (v := 0) C dX2_init_45 rfl rfl ?_
  refine xr_put (n := 49) C 0 rfl rfl 8 (by decide) in_X2 tyX2 tyX2_ok nmX2 u_182 rfl rfl rfl rfl (Nat.le_of_ble_eq_true rfl) [[(y, .inr (2, [.int 0, .int 0, .int 0, .int 0, .int 0, .int 0, .int 0, .int 0, .int 0, .int 0]))]] rfl rfl dX2_init_46 ?_
  refine xr_aload_n (n := 50) (j := 0) C dX2_init_49 rfl rfl ?_
  refine xr_iconst (n := 51) (v := 0) C dX2_init_50 rfl rfl ?_
  refine xr_put (n := 54) C 0 rfl rfl 9 (by decide) in_X2 tyX2 tyX2_ok nmX2 u_183 rfl rfl rfl rfl (Nat.le_of_ble_eq_true rfl) [[(y, .inr (2, [.int 0, .int 0, .int 0, .int 0, .int 0, .int 0, .int 0, .int 0, .int 0, .int 0]))]] rfl rfl dX2_init_51 ?_
  obtain rfl := Option.some.inj hR
  exact ret ⟨rfl, rfl⟩ (Nat.le_of_ble_eq_true rfl) (Nat.le_of_ble_eq_true rfl) dX2_init_54
theorem dX5_init_0 : decode cX5_init 0 = .ok (.aload_n 0, 1) := by decide +kernel
theorem dX5_init_1 : decode cX5_init 1 = .ok (.invokespecial 3, 3) := by decide +kernel
theorem dX5_init_4 : decode cX5_init 4 = .ok (.aload_n 0, 1) := by decide +kernel
theorem dX5_init_5 : decode cX5_init 5 = .ok (.new 9, 3) := by decide +kernel
theorem dX5_init_8 : decode cX5_init 8 = .ok (.dup, 1) := by decide +kernel
theorem dX5_init_9 : decode cX5_init 9 = .ok (.invokespecial 11, 3) := by decide +kernel
theorem dX5_init_12 : decode cX5_init 12 = .ok (.putfield 12, 3) := by decide +kernel
theorem dX5_init_15 : decode cX5_init 15 = .ok (.aload_n 0, 1) := by decide +kernel
theorem dX5_init_16 : decode cX5_init 16 = .ok (.new 18, 3) := by decide +kernel
theorem dX5_init_19 : decode cX5_init 19 = .ok (.dup, 1) := by decide +kernel
theorem dX5_init_20 : decode cX5_init 20 = .ok (.invokespecial 20, 3) := by decide +kernel
theorem dX5_init_23 : decode cX5_init 23 = .ok (.putfield 21, 3) := by decide +kernel
theorem dX5_init_26 : decode cX5_init 26 = .ok (.aload_n 0, 1) := by decide +kernel
theorem dX5_init_27 : decode cX5_init 27 = .ok (.iconst 0, 1) := by decide +kernel
theorem dX5_init_28 : decode cX5_init 28 = .ok (.putfield 25, 3) := by decide +kernel
theorem dX5_init_31 : decode cX5_init 31 = .ok (.aload_n 0, 1) := by decide +kernel
theorem dX5_init_32 : decode cX5_init 32 = .ok (.iconst 0, 1) := by decide +kernel
theorem dX5_init_33 : decode cX5_init 33 = .ok (.putfield 29, 3) := by decide +kernel
theorem dX5_init_36 : decode cX5_init 36 = .ok (.aload_n 0, 1) := by decide +kernel
theorem dX5_init_37 : decode cX5_init 37 = .ok (.iconst 0, 1) := by decide +kernel
theorem dX5_init_38 : decode cX5_init 38 = .ok (.putfield 32, 3) := by decide +kernel
theorem dX5_init_41 : decode cX5_init 41 = .ok (.aload_n 0, 1) := by decide +kernel
theorem dX5_init_42 : decode cX5_init 42 = .ok (.iconst 0, 1) := by decide +kernel
theorem dX5_init_43 : decode cX5_init 43 = .ok (.putfield 35, 3) := by decide +kernel
theorem dX5_init_46 : decode cX5_init 46 = .ok (.aload_n 0, 1) := by decide +kernel
theorem dX5_init_47 : decode cX5_init 47 = .ok (.iconst 0, 1) := by decide +kernel
theorem dX5_init_48 : decode cX5_init 48 = .ok (.putfield 38, 3) := by decide +kernel
theorem dX5_init_51 : decode cX5_init 51 = .ok (.aload_n 0, 1) := by decide +kernel
theorem dX5_init_52 : decode cX5_init 52 = .ok (.iconst 0, 1) := by decide +kernel
theorem dX5_init_53 : decode cX5_init 53 = .ok (.putfield 41, 3) := by decide +kernel
theorem dX5_init_56 : decode cX5_init 56 = .ok (.aload_n 0, 1) := by decide +kernel
theorem dX5_init_57 : decode cX5_init 57 = .ok (.iconst 0, 1) := by decide +kernel
theorem dX5_init_58 : decode cX5_init 58 = .ok (.putfield 44, 3) := by decide +kernel
theorem dX5_init_61 : decode cX5_init 61 = .ok (.aload_n 0, 1) := by decide +kernel
theorem dX5_init_62 : decode cX5_init 62 = .ok (.iconst 0, 1) := by decide +kernel
theorem dX5_init_63 : decode cX5_init 63 = .ok (.putfield 47, 3) := by decide +kernel
theorem dX5_init_66 : decode cX5_init 66 = .ok (.aload_n 0, 1) := by decide +kernel
theorem dX5_init_67 : decode cX5_init 67 = .ok (.iconst 0, 1) := by decide +kernel
theorem dX5_init_68 : decode cX5_init 68 = .ok (.putfield 50, 3) := by decide +kernel
theorem dX5_init_71 : decode cX5_init 71 = .ok (.return_, 1) := by decide +kernel
def fX5_init  : Option (Unit) := ((fX1_init).bind fun x_2 => ((fX2_init).bind fun x_11 => some ()))
abbrev hX5_init : Cond := .code yX5_init cX5_init 1 none
theorem mX5_init : yM yX5_init hX5_init 0 := ⟨u_154, u_33, by decide +kernel, by decide +kernel, by decide +kernel⟩
set_option maxHeartbeats 4000000 in
set_option maxRecDepth 100000 in
theorem kX5_init (l : Launch) (D : va_G) (cy : Nat → ClassId) (o : Nat) {res : Unit} (hR : fX5_init  = some res) : YM l D cy yX5_init hX5_init 3 6 181 [.ref o] [[(o, .inr (5, [.null, .null, .int 0, .int 0, .int 0, .int 0, .int 0, .int 0, .int 0, .int 0, .int 0]))]] (fun v u => ∃ oj : Nat, ∃ oy : Nat, ∃ oja : Nat, ∃ ojb : Nat, ∃ ojan : Nat, ∃ ojbn : Nat, v = none ∧ u = [[(o, .inr (5, [.ref oj, .ref oy, .int 0, .int 0, .int 0, .int 0, .int 0, .int 0, .int 0, .int 0, .int 0]))], [(oj, .inr (1, [.ref oja, .ref ojb, .int 2, .int 2, .int 2, .int 0, .int 0]))], [(oja, .inr (4, [.ref ojan]))], [(ojan, .inl (cy 1, 81, .inl (fun _ => 0)))], [(ojb, .inr (4, [.ref ojbn]))], [(ojbn, .inl (cy 1, 81, .inl (fun _ => 0)))], [(oy, .inr (2, [.int 0, .int 0, .int 0, .int 0, .int 0, .int 0, .int 0, .int 0, .int 0, .int 0]))]]) := by
  unfold fX5_init at hR
  refine YM.ofV (cc := cX5_init) (maxL := 1) (ret := none) (by decide +kernel) rfl (Nat.le_of_ble_eq_true rfl) [(0, .ref o)] rfl rfl (fun p e s m args below meth c A H0 Q C hnm ret => ?_)
  refine xr_aload_n (n := 1) (j := 0) C dX5_init_0 rfl rfl ?_
  refine xr_objInit (n := 4) C u_155 u_49 u_50 (Nat.le_of_ble_eq_true rfl) (Nat.le_of_ble_eq_true rfl) (Nat.le_of_ble_eq_true rfl) dX5_init_1 rfl ?_
  refine xr_aload_n (n := 5) (j := 0) C dX5_init_4 rfl rfl ?_
  refine xr_new (n := 8) (ci := 1) C tyX1 tyX1_ok in_X1 u_156 u_52 u_29 rfl [.null, .null, .int 0, .int 0, .int 0, .int 0, .int 0] (by decide) (Nat.le_of_ble_eq_true rfl) (Nat.le_of_ble_eq_true rfl) dX5_init_5 rfl (fun q_1 => ?_)
  refine xr_eq (bs' := [[(o, .inr (5, [.null, .null, .int 0, .int 0, .int 0, .int 0, .int 0, .int 0, .int 0, .int 0, .int 0]))], [(q_1, .inr (1, [.null, .null, .int 0, .int 0, .int 0, .int 0, .int 0]))]]) rfl ?_
  refine xr_dup (n := 9) C dX5_init_8 rfl rfl ?_
  obtain ⟨x_2, hx_2, hR⟩ := yf_b hR
  refine xr_callIN (n := 12) (As := []) (rest := [.ref q_1, .ref o]) C (kX1_init l D cy (j := q_1) hx_2) mX1_init (host := RX6) (List.mem_of_getElem? (i := 25) rfl) u_54 rfl 2 [1] [0] rfl (by decide +kernel) rfl rfl rfl rfl (Nat.le_of_ble_eq_true rfl) (Nat.le_of_ble_eq_true rfl) (Nat.le_of_ble_eq_true rfl) (Nat.le_of_ble_eq_true rfl) (Nat.le_of_ble_eq_true rfl) dX5_init_9 rfl (fun v_3 u_4 hp_5 => ?_)
  obtain ⟨q_6, q_7, q_8, q_9, rfl, rfl⟩ := hp_5
  refine xr_perm C 6 [5, 0, 1, 2, 3, 4] [] [[(o, .inr (5, [.null, .null, .int 0, .int 0, .int 0, .int 0, .int 0, .int 0, .int 0, .int 0, .int 0]))], [(q_1, .inr (1, [.ref q_6, .ref q_7, .int 2, .int 2, .int 2, .int 0, .int 0]))], [(q_6, .inr (4, [.ref q_8]))], [(q_8, .inl (cy 1, 81, .inl (fun _ => 0)))], [(q_7, .inr (4, [.ref q_9]))], [(q_9, .inl (cy 1, 81, .inl (fun _ => 0)))]] rfl (by decide +kernel) rfl ?_
  refine xr_putF (n := 15) C 0 rfl rfl 0 (by decide) in_X5 tyX5 tyX5_ok nmX5 u_207 rfl rfl hnm rfl rfl rfl (Nat.le_of_ble_eq_true rfl) [[(o, .inr (5, [.ref q_1, .null, .int 0, .int 0, .int 0, .int 0, .int 0, .int 0, .int 0, .int 0, .int 0]))], [(q_1, .inr (1, [.ref q_6, .ref q_7, .int 2, .int 2, .int 2, .int 0, .int 0]))], [(q_6, .inr (4, [.ref q_8]))], [(q_8, .inl (cy 1, 81, .inl (fun _ => 0)))], [(q_7, .inr (4, [.ref q_9]))], [(q_9, .inl (cy 1, 81, .inl (fun _ => 0)))]] rfl rfl dX5_init_12 ?_
  refine xr_aload_n (n := 16) (j := 0) C dX5_init_15 rfl rfl ?_
  refine xr_new (n := 19) (ci := 2) C tyX2 tyX2_ok in_X2 u_158 u_159 u_34 rfl [.int 0, .int 0, .int 0, .int 0, .int 0, .int 0, .int 0, .int 0, .int 0, .int 0] (by decide) (Nat.le_of_ble_eq_true rfl) (Nat.le_of_ble_eq_true rfl) dX5_init_16 rfl (fun q_10 => ?_)
  refine xr_eq (bs' := [[(o, .inr (5, [.ref q_1, .null, .int 0, .int 0, .int 0, .int 0, .int 0, .int 0, .int 0, .int 0, .int 0]))], [(q_1, .inr (1, [.ref q_6, .ref q_7, .int 2, .int 2, .int 2, .int 0, .int 0]))], [(q_6, .inr (4, [.ref q_8]))], [(q_8, .inl (cy 1, 81, .inl (fun _ => 0)))], [(q_7, .inr (4, [.ref q_9]))], [(q_9, .inl (cy 1, 81, .inl (fun _ => 0)))], [(q_10, .inr (2, [.int 0, .int 0, .int 0, .int 0, .int 0, .int 0, .int 0, .int 0, .int 0, .int 0]))]]) rfl ?_
  refine xr_dup (n := 20) C dX5_init_19 rfl rfl ?_
  obtain ⟨x_11, hx_11, hR⟩ := yf_b hR
  refine xr_callINp (n := 23) (As := []) (rest := [.ref q_10, .ref o]) C (kX2_init l D cy (y := q_10) hx_11) mX2_init (host := RX6) (List.mem_of_getElem? (i := 26) rfl) u_161 rfl 7 [6] [0, 1, 2, 3, 4, 5] rfl (by decide +kernel) rfl rfl rfl rfl (Nat.le_of_ble_eq_true rfl) (Nat.le_of_ble_eq_true rfl) (Nat.le_of_ble_eq_true rfl) (Nat.le_of_ble_eq_true rfl) (Nat.le_of_ble_eq_true rfl) dX5_init_20 rfl (fun _ _ hp => hp.2) (fun v_12 hp_14 => ?_)
  obtain ⟨rfl, -⟩ := hp_14
  refine xr_putF (n := 26) C 0 rfl rfl 1 (by decide) in_X5 tyX5 tyX5_ok nmX5 u_208 rfl rfl hnm rfl rfl rfl (Nat.le_of_ble_eq_true rfl) [[(o, .inr (5, [.ref q_1, .ref q_10, .int 0, .int 0, .int 0, .int 0, .int 0, .int 0, .int 0, .int 0, .int 0]))], [(q_1, .inr (1, [.ref q_6, .ref q_7, .int 2, .int 2, .int 2, .int 0, .int 0]))], [(q_6, .inr (4, [.ref q_8]))], [(q_8, .inl (cy 1, 81, .inl (fun _ => 0)))], [(q_7, .inr (4, [.ref q_9]))], [(q_9, .inl (cy 1, 81, .inl (fun _ => 0)))], [(q_10, .inr (2, [.int 0, .int 0, .int 0, .int 0, .int 0, .int 0, .int 0, .int 0, .int 0, .int 0]))]] rfl rfl dX5_init_23 ?_
  refine xr_aload_n (n := 27) (j := 0) C dX5_init_26 rfl rfl ?_
  refine xr_iconst (n := 28) (v := 0) C dX5_init_27 rfl rfl ?_
  refine xr_put (n := 31) C 0 rfl rfl 2 (by decide) in_X5 tyX5 tyX5_ok nmX5 u_209 rfl rfl rfl rfl (Nat.le_of_ble_eq_true rfl) [[(o, .inr (5, [.ref q_1, .ref q_10, .int 0, .int 0, .int 0, .int 0, .int 0, .int 0, .int 0, .int 0, .int 0]))], [(q_1, .inr (1, [.ref q_6, .ref q_7, .int 2, .int 2, .int 2, .int 0, .int 0]))], [(q_6, .inr (4, [.ref q_8]))], [(q_8, .inl (cy 1, 81, .inl (fun _ => 0)))], [(q_7, .inr (4, [.ref q_9]))], [(q_9, .inl (cy 1, 81, .inl (fun _ => 0)))], [(q_10, .inr (2, [.int 0, .int 0, .int 0, .int 0, .int 0, .int 0, .int 0, .int 0, .int 0, .int 0]))]] rfl rfl dX5_init_28 ?_
  refine xr_aload_n (n := 32) (j := 0) C dX5_init_31 rfl rfl ?_
  refine xr_iconst (n := 33) (v := 0) C dX5_init_32 rfl rfl ?_
  refine xr_put (n := 36) C 0 rfl rfl 3 (by decide) in_X5 tyX5 tyX5_ok nmX5 u_210 rfl rfl rfl rfl (Nat.le_of_ble_eq_true rfl) [[(o, .inr (5, [.ref q_1, .ref q_10, .int 0, .int 0, .int 0, .int 0, .int 0, .int 0, .int 0, .int 0, .int 0]))], [(q_1, .inr (1, [.ref q_6, .ref q_7, .int 2, .int 2, .int 2, .int 0, .int 0]))], [(q_6, .inr (4, [.ref q_8]))], [(q_8, .inl (cy 1, 81, .inl (fun _ => 0)))], [(q_7, .inr (4, [.ref q_9]))], [(q_9, .inl (cy 1, 81, .inl (fun _ => 0)))], [(q_10, .inr (2, [.int 0, .int 0, .int 0, .int 0, .int 0, .int 0, .int 0, .int 0, .int 0, .int 0]))]] rfl rfl dX5_init_33 ?_
  refine xr_aload_n (n := 37) (j := 0) C dX5_init_36 rfl rfl ?_
  refine xr_iconst (n := 38) (v := 0) C dX5_init_37 rfl rfl ?_
  refine xr_put (n := 41) C 0 rfl rfl 4 (by decide) in_X5 tyX5 tyX5_ok nmX5 u_212 rfl rfl rfl rfl (Nat.le_of_ble_eq_true rfl) [[(o, .inr (5, [.ref q_1, .ref q_10, .int 0, .int 0, .int 0, .int 0, .int 0, .int 0, .int 0, .int 0, .int 0]))], [(q_1, .inr (1, [.ref q_6, .ref q_7, .int 2, .int 2, .int 2, .int 0, .int 0]))], [(q_6, .inr (4, [.ref q_8]))], [(q_8, .inl (cy 1, 81, .inl (fun _ => 0)))], [(q_7, .inr (4, [.ref q_9]))], [(q_9, .inl (cy 1, 81, .inl (fun _ => 0)))], [(q_10, .inr (2, [.int 0, .int 0, .int 0, .int 0, .int 0, .int 0, .int 0, .int 0, .int 0, .int 0]))]] rfl rfl dX5_init_38 ?_
  refine xr_aload_n (n := 42) (j := 0) C dX5_init_41 rfl rfl ?_
  refine xr_iconst (n := 43) (v := 0) C dX5_init_42 rfl rfl ?_
  refine xr_put (n := 46) C 0 rfl rfl 5 (by decide) in_X5 tyX5 tyX5_ok nmX5 u_213 rfl rfl rfl rfl (Nat.le_of_ble_eq_true rfl) [[(o, .inr (5, [.ref q_1, .ref q_10, .int 0, .int 0, .int 0, .int 0, .int 0, .int 0, .int 0, .int 0, .int 0]))], [(q_1, .inr (1, [.ref q_6, .ref q_7, .int 2, .int 2, .int 2, .int 0, .int 0]))], [(q_6, .inr (4, [.ref q_8]))], [(q_8, .inl (cy 1, 81, .inl (fun _ => 0)))], [(q_7, .inr (4, [.ref q_9]))], [(q_9, .inl (cy 1, 81, .inl (fun _ => 0)))], [(q_10, .inr (2, [.int 0, .int 0, .int 0, .int 0, .int 0, .int 0, .int 0, .int 0, .int 0, .int 0]))]] rfl rfl dX5_init_43 ?_
  refine xr_aload_n (n := 47) (j := 0) C dX5_init_46 rfl rfl ?_
  refine xr_iconst (n := 48) (v := 0) C dX5_init_47 rfl rfl ?_
  refine xr_put (n := 51) C 0 rfl rfl 6 (by decide) in_X5 tyX5 tyX5_ok nmX5 u_214 rfl rfl rfl rfl (Nat.le_of_ble_eq_true rfl) [[(o, .inr (5, [.ref q_1, .ref q_10, .int 0, .int 0, .int 0, .int 0, .int 0, .int 0, .int 0, .int 0, .int 0]))], [(q_1, .inr (1, [.ref q_6, .ref q_7, .int 2, .int 2, .int 2, .int 0, .int 0]))], [(q_6, .inr (4, [.ref q_8]))], [(q_8, .inl (cy 1, 81, .inl (fun _ => 0)))], [(q_7, .inr (4, [.ref q_9]))], [(q_9, .inl (cy 1, 81, .inl (fun _ => 0)))], [(q_10, .inr (2, [.int 0, .int 0, .int 0, .int 0, .int 0, .int 0, .int 0, .int 0, .int 0, .int 0]))]] rfl rfl dX5_init_48 ?_
  refine xr_aload_n (n := 52) (j := 0) C dX5_init_51 rfl rfl ?_
  refine xr_iconst (n := 53) (v := 0) C dX5_init_52 rfl rfl ?_
  refine xr_put (n := 56) C 0 rfl rfl 7 (by decide) in_X5 tyX5 tyX5_ok nmX5 u_215 rfl rfl rfl rfl (Nat.le_of_ble_eq_true rfl) [[(o, .inr (5, [.ref q_1, .ref q_10, .int 0, .int 0, .int 0, .int 0, .int 0, .int 0, .int 0, .int 0, .int 0]))], [(q_1, .inr (1, [.ref q_6, .ref q_7, .int 2, .int 2, .int 2, .int 0, .int 0]))], [(q_6, .inr (4, [.ref q_8]))], [(q_8, .inl (cy 1, 81, .inl (fun _ => 0)))], [(q_7, .inr (4, [.ref q_9]))], [(q_9, .inl (cy 1, 81, .inl (fun _ => 0)))], [(q_10, .inr (2, [.int 0, .int 0, .int 0, .int 0, .int 0, .int 0, .int 0, .int 0, .int 0, .int 0]))]] rfl rfl dX5_init_53 ?_
  refine xr_aload_n (n := 57) (j := 0) C dX5_init_56 rfl rfl ?_
  refine xr_iconst (n := 58) (v := 0) C dX5_init_57 rfl rfl ?_
  refine xr_put (n := 61) C 0 rfl rfl 8 (by decide) in_X5 tyX5 tyX5_ok nmX5 u_217 rfl rfl rfl rfl (Nat.le_of_ble_eq_true rfl) [[(o, .inr (5, [.ref q_1, .ref q_10, .int 0, .int 0, .int 0, .int 0, .int 0, .int 0, .int 0, .int 0, .int 0]))], [(q_1, .inr (1, [.ref q_6, .ref q_7, .int 2, .int 2, .int 2, .int 0, .int 0]))], [(q_6, .inr (4, [.ref q_8]))], [(q_8, .inl (cy 1, 81, .inl (fun _ => 0)))], [(q_7, .inr (4, [.ref q_9]))], [(q_9, .inl (cy 1, 81, .inl (fun _ => 0)))], [(q_10, .inr (2, [.int 0, .int 0, .int 0, .int 0, .int 0, .int 0, .int 0, .int 0, .int 0, .int 0]))]] rfl rfl dX5_init_58 ?_
  refine xr_aload_n (n := 62) (j := 0) C dX5_init_61 rfl rfl ?_
  refine xr_iconst (n := 63) (v := 0) C dX5_init_62 rfl rfl ?_
  refine xr_put (n := 66) C 0 rfl rfl 9 (by decide) in_X5 tyX5 tyX5_ok nmX5 u_219 rfl rfl rfl rfl (Nat.le_of_ble_eq_true rfl) [[(o, .inr (5, [.ref q_1, .ref q_10, .int 0, .int 0, .int 0, .int 0, .int 0, .int 0, .int 0, .int 0, .int 0]))], [(q_1, .inr (1, [.ref q_6, .ref q_7, .int 2, .int 2, .int 2, .int 0, .int 0]))], [(q_6, .inr (4, [.ref q_8]))], [(q_8, .inl (cy 1, 81, .inl (fun _ => 0)))], [(q_7, .inr (4, [.ref q_9]))], [(q_9, .inl (cy 1, 81, .inl (fun _ => 0)))], [(q_10, .inr (2, [.int 0, .int 0, .int 0, .int 0, .int 0, .int 0, .int 0, .int 0, .int 0, .int 0]))]] rfl rfl dX5_init_63 ?_
  refine xr_aload_n (n := 67) (j := 0) C dX5_init_66 rfl rfl ?_
  refine xr_iconst (n := 68) (v := 0) C dX5_init_67 rfl rfl ?_
  refine xr_put (n := 71) C 0 rfl rfl 10 (by decide) in_X5 tyX5 tyX5_ok nmX5 u_221 rfl rfl rfl rfl (Nat.le_of_ble_eq_true rfl) [[(o, .inr (5, [.ref q_1, .ref q_10, .int 0, .int 0, .int 0, .int 0, .int 0, .int 0, .int 0, .int 0, .int 0]))], [(q_1, .inr (1, [.ref q_6, .ref q_7, .int 2, .int 2, .int 2, .int 0, .int 0]))], [(q_6, .inr (4, [.ref q_8]))], [(q_8, .inl (cy 1, 81, .inl (fun _ => 0)))], [(q_7, .inr (4, [.ref q_9]))], [(q_9, .inl (cy 1, 81, .inl (fun _ => 0)))], [(q_10, .inr (2, [.int 0, .int 0, .int 0, .int 0, .int 0, .int 0, .int 0, .int 0, .int 0, .int 0]))]] rfl rfl dX5_init_68 ?_
  obtain rfl := Option.some.inj hR
  exact ret ⟨q_1, q_10, q_6, q_7, q_8, q_9, rfl, rfl⟩ (Nat.le_of_ble_eq_true rfl) (Nat.le_of_ble_eq_true rfl) dX5_init_71
