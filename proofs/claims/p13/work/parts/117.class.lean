theorem u_170 : Cond.methodLink RX3 3 objectInit ∈ yU := yu_tables_1_1 114 (by decide +kernel) (by decide +kernel)
theorem u_171 : Cond.classLink RX3 9 RX4 ∈ yU := yu_tables_1_1 115 (by decide +kernel) (by decide +kernel)
theorem u_169 : Cond.code yX3_init cX3_init 1 none ∈ yU := yu_tables_1_1 113 (by decide +kernel) (by decide +kernel)
theorem u_204 : Cond.methodLink RX2 1 objectInit ∈ yU := yu_tables_1_1 148 (by decide +kernel) (by decide +kernel)
theorem u_203 : Cond.code yX2_init cX2_init 1 none ∈ yU := yu_tables_1_1 147 (by decide +kernel) (by decide +kernel)
theorem u_196 : Cond.methodLink RX5 3 objectInit ∈ yU := yu_tables_1_1 140 (by decide +kernel) (by decide +kernel)
theorem u_197 : Cond.classLink RX5 9 RX1 ∈ yU := yu_tables_1_1 141 (by decide +kernel) (by decide +kernel)
theorem u_93 : Cond.instantiable RX1 7 ∈ yU := yu_tables_1_1 37 (by decide +kernel) (by decide +kernel)
theorem u_95 : Cond.instanceMethod yX1_init ∈ yU := yu_tables_1_1 39 (by decide +kernel) (by decide +kernel)
theorem u_199 : Cond.classLink RX5 18 RX2 ∈ yU := yu_tables_1_1 143 (by decide +kernel) (by decide +kernel)
theorem u_200 : Cond.instantiable RX2 10 ∈ yU := yu_tables_1_1 144 (by decide +kernel) (by decide +kernel)
theorem u_202 : Cond.instanceMethod yX2_init ∈ yU := yu_tables_1_1 146 (by decide +kernel) (by decide +kernel)
theorem u_195 : Cond.code yX5_init cX5_init 1 none ∈ yU := yu_tables_1_1 139 (by decide +kernel) (by decide +kernel)
theorem u_89 : Cond.methodLink RX6 1 objectInit ∈ yU := yu_tables_1_1 33 (by decide +kernel) (by decide +kernel)
theorem u_92 : Cond.classLink RX6 7 RX1 ∈ yU := yu_tables_1_1 36 (by decide +kernel) (by decide +kernel)
theorem u_139 : Cond.classLink RX6 16 RX0 ∈ yU := yu_tables_1_1 83 (by decide +kernel) (by decide +kernel)
theorem u_140 : Cond.instantiable RX0 4 ∈ yU := yu_tables_1_1 84 (by decide +kernel) (by decide +kernel)
theorem u_142 : Cond.instanceMethod yX0_init ∈ yU := yu_tables_1_1 86 (by decide +kernel) (by decide +kernel)
theorem u_165 : Cond.classLink RX6 23 RX3 ∈ yU := yu_tables_1_1 109 (by decide +kernel) (by decide +kernel)
theorem u_166 : Cond.instantiable RX3 4 ∈ yU := yu_tables_1_1 110 (by decide +kernel) (by decide +kernel)
theorem u_168 : Cond.instanceMethod yX3_init ∈ yU := yu_tables_1_1 112 (by decide +kernel) (by decide +kernel)
theorem u_191 : Cond.classLink RX6 30 RX5 ∈ yU := yu_tables_1_1 135 (by decide +kernel) (by decide +kernel)
theorem u_192 : Cond.instantiable RX5 11 ∈ yU := yu_tables_1_1 136 (by decide +kernel) (by decide +kernel)
theorem u_194 : Cond.instanceMethod yX5_init ∈ yU := yu_tables_1_1 138 (by decide +kernel) (by decide +kernel)
theorem u_287 : Cond.classLink RX6 37 RX2 ∈ yU := yu_tables_1_1 231 (by decide +kernel) (by decide +kernel)
theorem u_88 : Cond.code yX6_init cX6_init 1 none ∈ yU := yu_tables_1_1 32 (by decide +kernel) (by decide +kernel)
theorem dX3_init_0 : decode cX3_init 0 = .ok (.aload_n 0, 1) := by decide +kernel
theorem dX3_init_1 : decode cX3_init 1 = .ok (.invokespecial 3, 3) := by decide +kernel
theorem dX3_init_4 : decode cX3_init 4 = .ok (.aload_n 0, 1) := by decide +kernel
theorem dX3_init_5 : decode cX3_init 5 = .ok (.new 9, 3) := by decide +kernel
theorem dX3_init_8 : decode cX3_init 8 = .ok (.dup, 1) := by decide +kernel
theorem dX3_init_9 : decode cX3_init 9 = .ok (.invokespecial 11, 3) := by decide +kernel
theorem dX3_init_12 : decode cX3_init 12 = .ok (.putfield 12, 3) := by decide +kernel
theorem dX3_init_15 : decode cX3_init 15 = .ok (.aload_n 0, 1) := by decide +kernel
theorem dX3_init_16 : decode cX3_init 16 = .ok (.iconst 0, 1) := by decide +kernel
theorem dX3_init_17 : decode cX3_init 17 = .ok (.putfield 18, 3) := by decide +kernel
theorem dX3_init_20 : decode cX3_init 20 = .ok (.aload_n 0, 1) := by decide +kernel
theorem dX3_init_21 : decode cX3_init 21 = .ok (.iconst 0, 1) := by decide +kernel
theorem dX3_init_22 : decode cX3_init 22 = .ok (.putfield 22, 3) := by decide +kernel
theorem dX3_init_25 : decode cX3_init 25 = .ok (.aload_n 0, 1) := by decide +kernel
theorem dX3_init_26 : decode cX3_init 26 = .ok (.iconst 0, 1) := by decide +kernel
theorem dX3_init_27 : decode cX3_init 27 = .ok (.putfield 25, 3) := by decide +kernel
theorem dX3_init_30 : decode cX3_init 30 = .ok (.return_, 1) := by decide +kernel
def fX3_init  : Option (Unit) := ((fX4_init).bind fun x_2 => some ())
abbrev hX3_init : Cond := .code yX3_init cX3_init 1 none
theorem mX3_init : yM yX3_init hX3_init 0 := ⟨u_169, u_61, by decide +kernel, by decide +kernel, by decide +kernel⟩
set_option maxHeartbeats 4000000 in
set_option maxRecDepth 100000 in
theorem kX3_init (l : Launch) (D : va_G) (cy : Nat → ClassId) (z : Nat) {res : Unit} (hR : fX3_init  = some res) : YM l D cy yX3_init hX3_init 2 2 82 [.ref z] [[(z, .inr (5, [.null, .int 0, .int 0, .int 0]))]] (fun v u => ∃ zv : Nat, ∃ zvn : Nat, v = none ∧ u = [[(z, .inr (5, [.ref zv, .int 0, .int 0, .int 0]))], [(zv, .inr (6, [.ref zvn]))], [(zvn, .inl (cy 1, 81, .inl (fun _ => 0)))]]) := by
  unfold fX3_init at hR
  refine YM.ofV (cc := cX3_init) (maxL := 1) (ret := none) (by decide +kernel) rfl (Nat.le_of_ble_eq_true rfl) [(0, .ref z)] rfl rfl (fun p e s m args below meth c A H0 Q C hnm ret => ?_)
  refine xr_aload_n (n := 1) (j := 0) C dX3_init_0 rfl rfl ?_
  refine xr_objInit (n := 4) C u_170 u_90 u_91 (Nat.le_of_ble_eq_true rfl) (Nat.le_of_ble_eq_true rfl) (Nat.le_of_ble_eq_true rfl) dX3_init_1 rfl ?_
  refine xr_aload_n (n := 5) (j := 0) C dX3_init_4 rfl rfl ?_
  refine xr_new (n := 8) (ci := 6) C tyX4 tyX4_ok in_X4 u_171 u_99 u_59 rfl [.null] (by decide) (Nat.le_of_ble_eq_true rfl) (Nat.le_of_ble_eq_true rfl) dX3_init_5 rfl (fun q_1 => ?_)
  refine xr_eq (bs' := [[(z, .inr (5, [.null, .int 0, .int 0, .int 0]))], [(q_1, .inr (6, [.null]))]]) rfl ?_
  refine xr_dup (n := 9) C dX3_init_8 rfl rfl ?_
  obtain ⟨x_2, hx_2, hR⟩ := yf_b hR
  refine xr_callIN (n := 12) (As := []) (rest := [.ref q_1, .ref z]) C (kX4_init l D cy (h := q_1) hx_2) mX4_init (host := RX6) (List.mem_of_getElem? (i := 18) rfl) u_101 rfl 2 [1] [0] rfl (by decide +kernel) rfl rfl rfl rfl (Nat.le_of_ble_eq_true rfl) (Nat.le_of_ble_eq_true rfl) (Nat.le_of_ble_eq_true rfl) (Nat.le_of_ble_eq_true rfl) (Nat.le_of_ble_eq_true rfl) dX3_init_9 rfl (fun v_3 u_4 hp_5 => ?_)
  obtain ⟨q_6, rfl, rfl⟩ := hp_5
  refine xr_perm C 3 [2, 0, 1] [] [[(z, .inr (5, [.null, .int 0, .int 0, .int 0]))], [(q_1, .inr (6, [.ref q_6]))], [(q_6, .inl (cy 1, 81, .inl (fun _ => 0)))]] rfl (by decide +kernel) rfl ?_
  refine xr_putF (n := 15) C 0 rfl rfl 0 (by decide) in_X3 tyX3 tyX3_ok nmX3 u_173 rfl rfl hnm rfl rfl rfl (Nat.le_of_ble_eq_true rfl) [[(z, .inr (5, [.ref q_1, .int 0, .int 0, .int 0]))], [(q_1, .inr (6, [.ref q_6]))], [(q_6, .inl (cy 1, 81, .inl (fun _ => 0)))]] rfl rfl dX3_init_12 ?_
  refine xr_aload_n (n := 16) (j := 0) C dX3_init_15 rfl rfl ?_
  refine xr_iconst (n := 17) (v := 0) C dX3_init_16 rfl rfl ?_
  refine xr_put (n := 20) C 0 rfl rfl 1 (by decide) in_X3 tyX3 tyX3_ok nmX3 u_176 rfl rfl rfl rfl (Nat.le_of_ble_eq_true rfl) [[(z, .inr (5, [.ref q_1, .int 0, .int 0, .int 0]))], [(q_1, .inr (6, [.ref q_6]))], [(q_6, .inl (cy 1, 81, .inl (fun _ => 0)))]] rfl rfl dX3_init_17 ?_
  refine xr_aload_n (n := 21) (j := 0) C dX3_init_20 rfl rfl ?_
  refine xr_iconst (n := 22) (v := 0) C dX3_init_21 rfl rfl ?_
  refine xr_put (n := 25) C 0 rfl rfl 2 (by decide) in_X3 tyX3 tyX3_ok nmX3 u_178 rfl rfl rfl rfl (Nat.le_of_ble_eq_true rfl) [[(z, .inr (5, [.ref q_1, .int 0, .int 0, .int 0]))], [(q_1, .inr (6, [.ref q_6]))], [(q_6, .inl (cy 1, 81, .inl (fun _ => 0)))]] rfl rfl dX3_init_22 ?_
  refine xr_aload_n (n := 26) (j := 0) C dX3_init_25 rfl rfl ?_
  refine xr_iconst (n := 27) (v := 0) C dX3_init_26 rfl rfl ?_
  refine xr_put (n := 30) C 0 rfl rfl 3 (by decide) in_X3 tyX3 tyX3_ok nmX3 u_180 rfl rfl (by decide) (by decide) (Nat.le_of_ble_eq_true rfl) [[(z, .inr (5, [.ref q_1, .int 0, .int 0, .int 0]))], [(q_1, .inr (6, [.ref q_6]))], [(q_6, .inl (cy 1, 81, .inl (fun _ => 0)))]] rfl rfl dX3_init_27 ?_
  obtain rfl := Option.some.inj hR
  exact ret ⟨q_1, q_6, rfl, rfl⟩ (Nat.le_of_ble_eq_true rfl) (Nat.le_of_ble_eq_true rfl) dX3_init_30
theorem dX2_init_0 : decode cX2_init 0 = .ok (.aload_n 0, 1) := by decide +kernel
theorem dX2_init_1 : decode cX2_init 1 = .ok (.invokespecial 1, 3) := by decide +kernel
theorem dX2_init_4 : decode cX2_init 4 = .ok (.aload_n 0, 1) := by decide +kernel
theorem dX2_init_5 : decode cX2_init 5 = .ok (.iconst 0, 1) := by decide +kernel
theorem dX2_init_6 : decode cX2_init 6 = .ok (.putfield 7, 3) := by decide +kernel
theorem dX2_init_9 : decode cX2_init 9 = .ok (.aload_n 0, 1) := by decide +kernel
theorem dX2_init_10 : decode cX2_init 10 = .ok (.iconst 0, 1) := by decide +kernel
theorem dX2_init_11 : decode cX2_init 11 = .ok (.putfield 13, 3) := by decide +kernel
theorem dX2_init_14 : decode cX2_init 14 = .ok (.aload_n 0, 1) := by decide +kernel
theorem dX2_init_15 : decode cX2_init 15 = .ok (.iconst 0, 1) := by decide +kernel
theorem dX2_init_16 : decode cX2_init 16 = .ok (.putfield 16, 3) := by decide +kernel
theorem dX2_init_19 : decode cX2_init 19 = .ok (.aload_n 0, 1) := by decide +kernel
theorem dX2_init_20 : decode cX2_init 20 = .ok (.iconst 0, 1) := by decide +kernel
theorem dX2_init_21 : decode cX2_init 21 = .ok (.putfield 19, 3) := by decide +kernel
theorem dX2_init_24 : decode cX2_init 24 = .ok (.aload_n 0, 1) := by decide +kernel
theorem dX2_init_25 : decode cX2_init 25 = .ok (.iconst 0, 1) := by decide +kernel
theorem dX2_init_26 : decode cX2_init 26 = .ok (.putfield 22, 3) := by decide +kernel
theorem dX2_init_29 : decode cX2_init 29 = .ok (.aload_n 0, 1) := by decide +kernel
theorem dX2_init_30 : decode cX2_init 30 = .ok (.iconst 0, 1) := by decide +kernel
theorem dX2_init_31 : decode cX2_init 31 = .ok (.putfield 25, 3) := by decide +kernel
theorem dX2_init_34 : decode cX2_init 34 = .ok (.aload_n 0, 1) := by decide +kernel
theorem dX2_init_35 : decode cX2_init 35 = .ok (.iconst 0, 1) := by decide +kernel
theorem dX2_init_36 : decode cX2_init 36 = .ok (.putfield 28, 3) := by decide +kernel
theorem dX2_init_39 : decode cX2_init 39 = .ok (.aload_n 0, 1) := by decide +kernel
theorem dX2_init_40 : decode cX2_init 40 = .ok (.iconst 0, 1) := by decide +kernel
theorem dX2_init_41 : decode cX2_init 41 = .ok (.putfield 31, 3) := by decide +kernel
theorem dX2_init_44 : decode cX2_init 44 = .ok (.aload_n 0, 1) := by decide +kernel
theorem dX2_init_45 : decode cX2_init 45 = .ok (.iconst 0, 1) := by decide +kernel
theorem dX2_init_46 : decode cX2_init 46 = .ok (.putfield 34, 3) := by decide +kernel
theorem dX2_init_49 : decode cX2_init 49 = .ok (.aload_n 0, 1) := by decide +kernel
theorem dX2_init_50 : decode cX2_init 50 = .ok (.iconst 0, 1) := by decide +kernel
theorem dX2_init_51 : decode cX2_init 51 = .ok (.putfield 37, 3) := by decide +kernel
theorem dX2_init_54 : decode cX2_init 54 = .ok (.return_, 1) := by decide +kernel
def fX2_init  : Option (Unit) := some ()
abbrev hX2_init : Cond := .code yX2_init cX2_init 1 none
theorem mX2_init : yM yX2_init hX2_init 0 := ⟨u_203, u_63, by decide +kernel, by decide +kernel, by decide +kernel⟩
set_option maxHeartbeats 4000000 in
set_option maxRecDepth 100000 in
theorem kX2_init (l : Launch) (D : va_G) (cy : Nat → ClassId) (y : Nat) {res : Unit} (hR : fX2_init  = some res) : YM l D cy yX2_init hX2_init 1 0 0 [.ref y] [[(y, .inr (4, [.int 0, .int 0, .int 0, .int 0, .int 0, .int 0, .int 0, .int 0, .int 0, .int 0]))]] (fun v u => v = none ∧ u = [[(y, .inr (4, [.int 0, .int 0, .int 0, .int 0, .int 0, .int 0, .int 0, .int 0, .int 0, .int 0]))]]) := by
  unfold fX2_init at hR
  refine YM.ofV (cc := cX2_init) (maxL := 1) (ret := none) (by decide +kernel) rfl (Nat.le_of_ble_eq_true rfl) [(0, .ref y)] rfl rfl (fun p e s m args below meth c A H0 Q C hnm ret => ?_)
  refine xr_aload_n (n := 1) (j := 0) C dX2_init_0 rfl rfl ?_
  refine xr_objInit (n := 4) C u_204 u_90 u_91 (Nat.le_of_ble_eq_true rfl) (Nat.le_of_ble_eq_true rfl) (Nat.le_of_ble_eq_true rfl) dX2_init_1 rfl ?_
  refine xr_aload_n (n := 5) (j := 0) C dX2_init_4 rfl rfl ?_
  refine xr_iconst (n := 6) (v := 0) C dX2_init_5 rfl rfl ?_
  refine xr_put (n := 9) C 0 rfl rfl 0 (by decide) in_X2 tyX2 tyX2_ok nmX2 u_205 rfl rfl rfl rfl (Nat.le_of_ble_eq_true rfl) [[(y, .inr (4, [.int 0, .int 0, .int 0, .int 0, .int 0, .int 0, .int 0, .int 0, .int 0, .int 0]))]] rfl rfl dX2_init_6 ?_
  refine xr_aload_n (n := 10) (j := 0) C dX2_init_9 rfl rfl ?_
  refine xr_iconst (n := 11) (v := 0) C dX2_init_10 rfl rfl ?_
  refine xr_put (n := 14) C 0 rfl rfl 1 (by decide) in_X2 tyX2 tyX2_ok nmX2 u_207 rfl rfl rfl rfl (Nat.le_of_ble_eq_true rfl) [[(y, .inr (4, [.int 0, .int 0, .int 0, .int 0, .int 0, .int 0, .int 0, .int 0, .int 0, .int 0]))]] rfl rfl dX2_init_11 ?_
  refine xr_aload_n (n := 15) (j := 0) C dX2_init_14 rfl rfl ?_
  refine xr_iconst (n := 16) (v := 0) C dX2_init_15 rfl rfl ?_
  refine xr_put (n := 19) C 0 rfl rfl 2 (by decide) in_X2 tyX2 tyX2_ok nmX2 u_209 rfl rfl rfl rfl (Nat.le_of_ble_eq_true rfl) [[(y, .inr (4, [.int 0, .int 0, .int 0, .int 0, .int 0, .int 0, .int 0, .int 0, .int 0, .int 0]))]] rfl rfl dX2_init_16 ?_
  refine xr_aload_n (n := 20) (j := 0) C dX2_init_19 rfl rfl ?_
  refine xr_iconst (n := 21) (v := 0) C dX2_init_20 rfl rfl ?_
  refine xr_put (n := 24) C 0 rfl rfl 3 (by decide) in_X2 tyX2 tyX2_ok nmX2 u_212 rfl rfl rfl rfl (Nat.le_of_ble_eq_true rfl) [[(y, .inr (4, [.int 0, .int 0, .int 0, .int 0, .int 0, .int 0, .int 0, .int 0, .int 0, .int 0]))]] rfl rfl dX2_init_21 ?_
  refine xr_aload_n (n := 25) (j := 0) C dX2_init_24 rfl rfl ?_
  refine xr_iconst (n := 26) (v := 0) C dX2_init_25 rfl rfl ?_
  refine xr_put (n := 29) C 0 rfl rfl 4 (by decide) in_X2 tyX2 tyX2_ok nmX2 u_215 rfl rfl rfl rfl (Nat.le_of_ble_eq_true rfl) [[(y, .inr (4, [.int 0, .int 0, .int 0, .int 0, .int 0, .int 0, .int 0, .int 0, .int 0, .int 0]))]] rfl rfl dX2_init_26 ?_
  refine xr_aload_n (n := 30) (j := 0) C dX2_init_29 rfl rfl ?_
  refine xr_iconst (n := 31) (v := 0) C dX2_init_30 rfl rfl ?_
  refine xr_put (n := 34) C 0 rfl rfl 5 (by decide) in_X2 tyX2 tyX2_ok nmX2 u_218 rfl rfl rfl rfl (Nat.le_of_ble_eq_true rfl) [[(y, .inr (4, [.int 0, .int 0, .int 0, .int 0, .int 0, .int 0, .int 0, .int 0, .int 0, .int 0]))]] rfl rfl dX2_init_31 ?_
  refine xr_aload_n (n := 35) (j := 0) C dX2_init_34 rfl rfl ?_
  refine xr_iconst (n := 36) (v := 0) C dX2_init_35 rfl rfl ?_
  refine xr_put (n := 39) C 0 rfl rfl 6 (by decide) in_X2 tyX2 tyX2_ok nmX2 u_220 rfl rfl rfl rfl (Nat.le_of_ble_eq_true rfl) [[(y, .inr (4, [.int 0, .int 0, .int 0, .int 0, .int 0, .int 0, .int 0, .int 0, .int 0, .int 0]))]] rfl rfl dX2_init_36 ?_
  refine xr_aload_n (n := 40) (j := 0) C dX2_init_39 rfl rfl ?_
  refine xr_iconst (n := 41) (v := 0) C dX2_init_40 rfl rfl ?_
  refine xr_put (n := 44) C 0 rfl rfl 7 (by decide) in_X2 tyX2 tyX2_ok nmX2 u_222 rfl rfl rfl rfl (Nat.le_of_ble_eq_true rfl) [[(y, .inr (4, [.int 0, .int 0, .int 0, .int 0, .int 0, .int 0, .int 0, .int 0, .int 0, .int 0]))]] rfl rfl dX2_init_41 ?_
  refine xr_aload_n (n := 45) (j := 0) C dX2_init_44 rfl rfl ?_
  refine xr_iconst (n := 46) (v := 0) C dX2_init_45 rfl rfl ?_
  refine xr_put (n := 49) C 0 rfl rfl 8 (by decide) in_X2 tyX2 tyX2_ok nmX2 u_223 rfl rfl rfl rfl (Nat.le_of_ble_eq_true rfl) [[(y, .inr (4, [.int 0, .int 0, .int 0, .int 0, .int 0, .int 0, .int 0, .int 0, .int 0, .int 0]))]] rfl rfl dX2_init_46 ?_
  refine xr_aload_n (n := 50) (j := 0) C dX2_init_49 rfl rfl ?_
  refine xr_iconst (n := 51) (v := 0) C dX2_init_50 rfl rfl ?_
  refine xr_put (n := 54) C 0 rfl rfl 9 (by decide) in_X2 tyX2 tyX2_ok nmX2 u_224 rfl rfl rfl rfl (Nat.le_of_ble_eq_true rfl) [[(y, .inr (4, [.int 0, .int 0, .int 0, .int 0, .int 0, .int 0, .int 0, .int 0, .int 0, .int 0]))]] rfl rfl dX2_init_51 ?_
  obtain rfl := Option.some.inj hR
  exact ret ⟨rfl, rfl⟩ (Nat.le_of_ble_eq_true rfl) (Nat.le_of_ble_eq_true rfl) dX2_init_54
theorem dX5_init_0 : decode cX5_init 0 = .ok (.aload_n 0, 1) := by decide +kernel
theorem dX5_init_1 : decode cX5_init 1 = .ok (.invokespecial 3, 3) := by decide +kernel
theorem dX5_init_4 : decode cX5_init 4 = .ok (.aload_n 0, 1) := by decide +kernel
theorem dX5_init_5 : decode cX5_init 5 = .ok (.new 9, 3) := by decide +kernel
theorem dX5_init_8 : decode cX5_init 8 = .ok (.dup, 1) := by decide +kernel
theorem dX5_init_9 : decode cX5_init 9 = .ok (.invokespecial 11, 3) := by decide +kernel
theorem dX5_init_12 : decode cX5_init 12 = .ok (.putfield 12, 3) := by decide +kernel
theorem dX5_init_15 : decode cX5_init 15 = .ok (.aload_n 0, 1) := by decide +kernel
theorem dX5_init_16 : decode cX5_init 16 = .ok (.new 18, 3) := by decide +kernel
theorem dX5_init_19 : decode cX5_init 19 = .ok (.dup, 1) := by decide +kernel
theorem dX5_init_20 : decode cX5_init 20 = .ok (.invokespecial 20, 3) := by decide +kernel
theorem dX5_init_23 : decode cX5_init 23 = .ok (.putfield 21, 3) := by decide +kernel
theorem dX5_init_26 : decode cX5_init 26 = .ok (.aload_n 0, 1) := by decide +kernel
theorem dX5_init_27 : decode cX5_init 27 = .ok (.iconst 0, 1) := by decide +kernel
theorem dX5_init_28 : decode cX5_init 28 = .ok (.putfield 25, 3) := by decide +kernel
theorem dX5_init_31 : decode cX5_init 31 = .ok (.aload_n 0, 1) := by decide +kernel
theorem dX5_init_32 : decode cX5_init 32 = .ok (.iconst 0, 1) := by decide +kernel
theorem dX5_init_33 : decode cX5_init 33 = .ok (.putfield 29, 3) := by decide +kernel
theorem dX5_init_36 : decode cX5_init 36 = .ok (.aload_n 0, 1) := by decide +kernel
theorem dX5_init_37 : decode cX5_init 37 = .ok (.iconst 0, 1) := by decide +kernel
theorem dX5_init_38 : decode cX5_init 38 = .ok (.putfield 32, 3) := by decide +kernel
theorem dX5_init_41 : decode cX5_init 41 = .ok (.aload_n 0, 1) := by decide +kernel
theorem dX5_init_42 : decode cX5_init 42 = .ok (.iconst 0, 1) := by decide +kernel
theorem dX5_init_43 : decode cX5_init 43 = .ok (.putfield 35, 3) := by decide +kernel
theorem dX5_init_46 : decode cX5_init 46 = .ok (.aload_n 0, 1) := by decide +kernel
theorem dX5_init_47 : decode cX5_init 47 = .ok (.iconst 0, 1) := by decide +kernel
theorem dX5_init_48 : decode cX5_init 48 = .ok (.putfield 38, 3) := by decide +kernel
theorem dX5_init_51 : decode cX5_init 51 = .ok (.aload_n 0, 1) := by decide +kernel
theorem dX5_init_52 : decode cX5_init 52 = .ok (.iconst 0, 1) := by decide +kernel
theorem dX5_init_53 : decode cX5_init 53 = .ok (.putfield 41, 3) := by decide +kernel
theorem dX5_init_56 : decode cX5_init 56 = .ok (.aload_n 0, 1) := by decide +kernel
theorem dX5_init_57 : decode cX5_init 57 = .ok (.iconst 0, 1) := by decide +kernel
theorem dX5_init_58 : decode cX5_init 58 = .ok (.putfield 44, 3) := by decide +kernel
theorem dX5_init_61 : decode cX5_init 61 = .ok (.aload_n 0, 1) := by decide +kernel
theorem dX5_init_62 : decode cX5_init 62 = .ok (.iconst 0, 1) := by decide +kernel
theorem dX5_init_63 : decode cX5_init 63 = .ok (.putfield 47, 3) := by decide +kernel
theorem dX5_init_66 : decode cX5_init 66 = .ok (.aload_n 0, 1) := by decide +kernel
theorem dX5_init_67 : decode cX5_init 67 = .ok (.iconst 0, 1) := by decide +kernel
theorem dX5_init_68 : decode cX5_init 68 = .ok (.putfield 50, 3) := by decide +kernel
theorem dX5_init_71 : decode cX5_init 71 = .ok (.return_, 1) := by decide +kernel
def fX5_init  : Option (Unit) := ((fX1_init).bind fun x_2 => ((fX2_init).bind fun x_11 => some ()))
abbrev hX5_init : Cond := .code yX5_init cX5_init 1 none
theorem mX5_init : yM yX5_init hX5_init 0 := ⟨u_195, u_62, by decide +kernel, by decide +kernel, by decide +kernel⟩
set_option maxHeartbeats 4000000 in
set_option maxRecDepth 100000 in
theorem kX5_init (l : Launch) (D : va_G) (cy : Nat → ClassId) (o : Nat) {res : Unit} (hR : fX5_init  = some res) : YM l D cy yX5_init hX5_init 3 6 181 [.ref o] [[(o, .inr (7, [.null, .null, .int 0, .int 0, .int 0, .int 0, .int 0, .int 0, .int 0, .int 0, .int 0]))]] (fun v u => ∃ oj : Nat, ∃ oy : Nat, ∃ oja : Nat, ∃ ojb : Nat, ∃ ojan : Nat, ∃ ojbn : Nat, v = none ∧ u = [[(o, .inr (7, [.ref oj, .ref oy, .int 0, .int 0, .int 0, .int 0, .int 0, .int 0, .int 0, .int 0, .int 0]))], [(oj, .inr (3, [.ref oja, .ref ojb, .int 2, .int 2, .int 2, .int 0, .int 0]))], [(oja, .inr (6, [.ref ojan]))], [(ojan, .inl (cy 1, 81, .inl (fun _ => 0)))], [(ojb, .inr (6, [.ref ojbn]))], [(ojbn, .inl (cy 1, 81, .inl (fun _ => 0)))], [(oy, .inr (4, [.int 0, .int 0, .int 0, .int 0, .int 0, .int 0, .int 0, .int 0, .int 0, .int 0]))]]) := by
  unfold fX5_init at hR
  refine YM.ofV (cc := cX5_init) (maxL := 1) (ret := none) (by decide +kernel) rfl (Nat.le_of_ble_eq_true rfl) [(0, .ref o)] rfl rfl (fun p e s m args below meth c A H0 Q C hnm ret => ?_)
  refine xr_aload_n (n := 1) (j := 0) C dX5_init_0 rfl rfl ?_
  refine xr_objInit (n := 4) C u_196 u_90 u_91 (Nat.le_of_ble_eq_true rfl) (Nat.le_of_ble_eq_true rfl) (Nat.le_of_ble_eq_true rfl) dX5_init_1 rfl ?_
  refine xr_aload_n (n := 5) (j := 0) C dX5_init_4 rfl rfl ?_
  refine xr_new (n := 8) (ci := 3) C tyX1 tyX1_ok in_X1 u_197 u_93 u_58 rfl [.null, .null, .int 0, .int 0, .int 0, .int 0, .int 0] (by decide) (Nat.le_of_ble_eq_true rfl) (Nat.le_of_ble_eq_true rfl) dX5_init_5 rfl (fun q_1 => ?_)
  refine xr_eq (bs' := [[(o, .inr (7, [.null, .null, .int 0, .int 0, .int 0, .int 0, .int 0, .int 0, .int 0, .int 0, .int 0]))], [(q_1, .inr (3, [.null, .null, .int 0, .int 0, .int 0, .int 0, .int 0]))]]) rfl ?_
  refine xr_dup (n := 9) C dX5_init_8 rfl rfl ?_
  obtain ⟨x_2, hx_2, hR⟩ := yf_b hR
  refine xr_callIN (n := 12) (As := []) (rest := [.ref q_1, .ref o]) C (kX1_init l D cy (j := q_1) hx_2) mX1_init (host := RX6) (List.mem_of_getElem? (i := 25) rfl) u_95 rfl 2 [1] [0] rfl (by decide +kernel) rfl rfl rfl rfl (Nat.le_of_ble_eq_true rfl) (Nat.le_of_ble_eq_true rfl) (Nat.le_of_ble_eq_true rfl) (Nat.le_of_ble_eq_true rfl) (Nat.le_of_ble_eq_true rfl) dX5_init_9 rfl (fun v_3 u_4 hp_5 => ?_)
  obtain ⟨q_6, q_7, q_8, q_9, rfl, rfl⟩ := hp_5
  refine xr_perm C 6 [5, 0, 1, 2, 3, 4] [] [[(o, .inr (7, [.null, .null, .int 0, .int 0, .int 0, .int 0, .int 0, .int 0, .int 0, .int 0, .int 0]))], [(q_1, .inr (3, [.ref q_6, .ref q_7, .int 2, .int 2, .int 2, .int 0, .int 0]))], [(q_6, .inr (6, [.ref q_8]))], [(q_8, .inl (cy 1, 81, .inl (fun _ => 0)))], [(q_7, .inr (6, [.ref q_9]))], [(q_9, .inl (cy 1, 81, .inl (fun _ => 0)))]] rfl (by decide +kernel) rfl ?_
  refine xr_putF (n := 15) C 0 rfl rfl 0 (by decide) in_X5 tyX5 tyX5_ok nmX5 u_248 rfl rfl hnm rfl rfl rfl (Nat.le_of_ble_eq_true rfl) [[(o, .inr (7, [.ref q_1, .null, .int 0, .int 0, .int 0, .int 0, .int 0, .int 0, .int 0, .int 0, .int 0]))], [(q_1, .inr (3, [.ref q_6, .ref q_7, .int 2, .int 2, .int 2, .int 0, .int 0]))], [(q_6, .inr (6, [.ref q_8]))], [(q_8, .inl (cy 1, 81, .inl (fun _ => 0)))], [(q_7, .inr (6, [.ref q_9]))], [(q_9, .inl (cy 1, 81, .inl (fun _ => 0)))]] rfl rfl dX5_init_12 ?_
  refine xr_aload_n (n := 16) (j := 0) C dX5_init_15 rfl rfl ?_
  refine xr_new (n := 19) (ci := 4) C tyX2 tyX2_ok in_X2 u_199 u_200 u_63 rfl [.int 0, .int 0, .int 0, .int 0, .int 0, .int 0, .int 0, .int 0, .int 0, .int 0] (by decide) (Nat.le_of_ble_eq_true rfl) (Nat.le_of_ble_eq_true rfl) dX5_init_16 rfl (fun q_10 => ?_)
  refine xr_eq (bs' := [[(o, .inr (7, [.ref q_1, .null, .int 0, .int 0, .int 0, .int 0, .int 0, .int 0, .int 0, .int 0, .int 0]))], [(q_1, .inr (3, [.ref q_6, .ref q_7, .int 2, .int 2, .int 2, .int 0, .int 0]))], [(q_6, .inr (6, [.ref q_8]))], [(q_8, .inl (cy 1, 81, .inl (fun _ => 0)))], [(q_7, .inr (6, [.ref q_9]))], [(q_9, .inl (cy 1, 81, .inl (fun _ => 0)))], [(q_10, .inr (4, [.int 0, .int 0, .int 0, .int 0, .int 0, .int 0, .int 0, .int 0, .int 0, .int 0]))]]) rfl ?_
  refine xr_dup (n := 20) C dX5_init_19 rfl rfl ?_
  obtain ⟨x_11, hx_11, hR⟩ := yf_b hR
  refine xr_callINp (n := 23) (As := []) (rest := [.ref q_10, .ref o]) C (kX2_init l D cy (y := q_10) hx_11) mX2_init (host := RX6) (List.mem_of_getElem? (i := 26) rfl) u_202 rfl 7 [6] [0, 1, 2, 3, 4, 5] rfl (by decide +kernel) rfl rfl rfl rfl (Nat.le_of_ble_eq_true rfl) (Nat.le_of_ble_eq_true rfl) (Nat.le_of_ble_eq_true rfl) (Nat.le_of_ble_eq_true rfl) (Nat.le_of_ble_eq_true rfl) dX5_init_20 rfl (fun _ _ hp => hp.2) (fun v_12 hp_14 => ?_)
  obtain ⟨rfl, -⟩ := hp_14
  refine xr_putF (n := 26) C 0 rfl rfl 1 (by decide) in_X5 tyX5 tyX5_ok nmX5 u_249 rfl rfl hnm rfl rfl rfl (Nat.le_of_ble_eq_true rfl) [[(o, .inr (7, [.ref q_1, .ref q_10, .int 0, .int 0, .int 0, .int 0, .int 0, .int 0, .int 0, .int 0, .int 0]))], [(q_1, .inr (3, [.ref q_6, .ref q_7, .int 2, .int 2, .int 2, .int 0, .int 0]))], [(q_6, .inr (6, [.ref q_8]))], [(q_8, .inl (cy 1, 81, .inl (fun _ => 0)))], [(q_7, .inr (6, [.ref q_9]))], [(q_9, .inl (cy 1, 81, .inl (fun _ => 0)))], [(q_10, .inr (4, [.int 0, .int 0, .int 0, .int 0, .int 0, .int 0, .int 0, .int 0, .int 0, .int 0]))]] rfl rfl dX5_init_23 ?_
  refine xr_aload_n (n := 27) (j := 0) C dX5_init_26 rfl rfl ?_
  refine xr_iconst (n := 28) (v := 0) C dX5_init_27 rfl rfl ?_
  refine xr_put (n := 31) C 0 rfl rfl 2 (by decide) in_X5 tyX5 tyX5_ok nmX5 u_250 rfl rfl rfl rfl (Nat.le_of_ble_eq_true rfl) [[(o, .inr (7, [.ref q_1, .ref q_10, .int 0, .int 0, .int 0, .int 0, .int 0, .int 0, .int 0, .int 0, .int 0]))], [(q_1, .inr (3, [.ref q_6, .ref q_7, .int 2, .int 2, .int 2, .int 0, .int 0]))], [(q_6, .inr (6, [.ref q_8]))], [(q_8, .inl (cy 1, 81, .inl (fun _ => 0)))], [(q_7, .inr (6, [.ref q_9]))], [(q_9, .inl (cy 1, 81, .inl (fun _ => 0)))], [(q_10, .inr (4, [.int 0, .int 0, .int 0, .int 0, .int 0, .int 0, .int 0, .int 0, .int 0, .int 0]))]] rfl rfl dX5_init_28 ?_
  refine xr_aload_n (n := 32) (j := 0) C dX5_init_31 rfl rfl ?_
  refine xr_iconst (n := 33) (v := 0) C dX5_init_32 rfl rfl ?_
  refine xr_put (n := 36) C 0 rfl rfl 3 (by decide) in_X5 tyX5 tyX5_ok nmX5 u_251 rfl rfl rfl rfl (Nat.le_of_ble_eq_true rfl) [[(o, .inr (7, [.ref q_1, .ref q_10, .int 0, .int 0, .int 0, .int 0, .int 0, .int 0, .int 0, .int 0, .int 0]))], [(q_1, .inr (3, [.ref q_6, .ref q_7, .int 2, .int 2, .int 2, .int 0, .int 0]))], [(q_6, .inr (6, [.ref q_8]))], [(q_8, .inl (cy 1, 81, .inl (fun _ => 0)))], [(q_7, .inr (6, [.ref q_9]))], [(q_9, .inl (cy 1, 81, .inl (fun _ => 0)))], [(q_10, .inr (4, [.int 0, .int 0, .int 0, .int 0, .int 0, .int 0, .int 0, .int 0, .int 0, .int 0]))]] rfl rfl dX5_init_33 ?_
  refine xr_aload_n (n := 37) (j := 0) C dX5_init_36 rfl rfl ?_
  refine xr_iconst (n := 38) (v := 0) C dX5_init_37 rfl rfl ?_
  refine xr_put (n := 41) C 0 rfl rfl 4 (by decide) in_X5 tyX5 tyX5_ok nmX5 u_253 rfl rfl rfl rfl (Nat.le_of_ble_eq_true rfl) [[(o, .inr (7, [.ref q_1, .ref q_10, .int 0, .int 0, .int 0, .int 0, .int 0, .int 0, .int 0, .int 0, .int 0]))], [(q_1, .inr (3, [.ref q_6, .ref q_7, .int 2, .int 2, .int 2, .int 0, .int 0]))], [(q_6, .inr (6, [.ref q_8]))], [(q_8, .inl (cy 1, 81, .inl (fun _ => 0)))], [(q_7, .inr (6, [.ref q_9]))], [(q_9, .inl (cy 1, 81, .inl (fun _ => 0)))], [(q_10, .inr (4, [.int 0, .int 0, .int 0, .int 0, .int 0, .int 0, .int 0, .int 0, .int 0, .int 0]))]] rfl rfl dX5_init_38 ?_
  refine xr_aload_n (n := 42) (j := 0) C dX5_init_41 rfl rfl ?_
  refine xr_iconst (n := 43) (v := 0) C dX5_init_42 rfl rfl ?_
  refine xr_put (n := 46) C 0 rfl rfl 5 (by decide) in_X5 tyX5 tyX5_ok nmX5 u_254 rfl rfl rfl rfl (Nat.le_of_ble_eq_true rfl) [[(o, .inr (7, [.ref q_1, .ref q_10, .int 0, .int 0, .int 0, .int 0, .int 0, .int 0, .int 0, .int 0, .int 0]))], [(q_1, .inr (3, [.ref q_6, .ref q_7, .int 2, .int 2, .int 2, .int 0, .int 0]))], [(q_6, .inr (6, [.ref q_8]))], [(q_8, .inl (cy 1, 81, .inl (fun _ => 0)))], [(q_7, .inr (6, [.ref q_9]))], [(q_9, .inl (cy 1, 81, .inl (fun _ => 0)))], [(q_10, .inr (4, [.int 0, .int 0, .int 0, .int 0, .int 0, .int 0, .int 0, .int 0, .int 0, .int 0]))]] rfl rfl dX5_init_43 ?_
  refine xr_aload_n (n := 47) (j := 0) C dX5_init_46 rfl rfl ?_
  refine xr_iconst (n := 48) (v := 0) C dX5_init_47 rfl rfl ?_
  refine xr_put (n := 51) C 0 rfl rfl 6 (by decide) in_X5 tyX5 tyX5_ok nmX5 u_255 rfl rfl rfl rfl (Nat.le_of_ble_eq_true rfl) [[(o, .inr (7, [.ref q_1, .ref q_10, .int 0, .int 0, .int 0, .int 0, .int 0, .int 0, .int 0, .int 0, .int 0]))], [(q_1, .inr (3, [.ref q_6, .ref q_7, .int 2, .int 2, .int 2, .int 0, .int 0]))], [(q_6, .inr (6, [.ref q_8]))], [(q_8, .inl (cy 1, 81, .inl (fun _ => 0)))], [(q_7, .inr (6, [.ref q_9]))], [(q_9, .inl (cy 1, 81, .inl (fun _ => 0)))], [(q_10, .inr (4, [.int 0, .int 0, .int 0, .int 0, .int 0, .int 0, .int 0, .int 0, .int 0, .int 0]))]] rfl rfl dX5_init_48 ?_
  refine xr_aload_n (n := 52) (j := 0) C dX5_init_51 rfl rfl ?_
  refine xr_iconst (n := 53) (v := 0) C dX5_init_52 rfl rfl ?_
  refine xr_put (n := 56) C 0 rfl rfl 7 (by decide) in_X5 tyX5 tyX5_ok nmX5 u_256 rfl rfl rfl rfl (Nat.le_of_ble_eq_true rfl) [[(o, .inr (7, [.ref q_1, .ref q_10, .int 0, .int 0, .int 0, .int 0, .int 0, .int 0, .int 0, .int 0, .int 0]))], [(q_1, .inr (3, [.ref q_6, .ref q_7, .int 2, .int 2, .int 2, .int 0, .int 0]))], [(q_6, .inr (6, [.ref q_8]))], [(q_8, .inl (cy 1, 81, .inl (fun _ => 0)))], [(q_7, .inr (6, [.ref q_9]))], [(q_9, .inl (cy 1, 81, .inl (fun _ => 0)))], [(q_10, .inr (4, [.int 0, .int 0, .int 0, .int 0, .int 0, .int 0, .int 0, .int 0, .int 0, .int 0]))]] rfl rfl dX5_init_53 ?_
  refine xr_aload_n (n := 57) (j := 0) C dX5_init_56 rfl rfl ?_
  refine xr_iconst (n := 58) (v := 0) C dX5_init_57 rfl rfl ?_
  refine xr_put (n := 61) C 0 rfl rfl 8 (by decide) in_X5 tyX5 tyX5_ok nmX5 u_258 rfl rfl rfl rfl (Nat.le_of_ble_eq_true rfl) [[(o, .inr (7, [.ref q_1, .ref q_10, .int 0, .int 0, .int 0, .int 0, .int 0, .int 0, .int 0, .int 0, .int 0]))], [(q_1, .inr (3, [.ref q_6, .ref q_7, .int 2, .int 2, .int 2, .int 0, .int 0]))], [(q_6, .inr (6, [.ref q_8]))], [(q_8, .inl (cy 1, 81, .inl (fun _ => 0)))], [(q_7, .inr (6, [.ref q_9]))], [(q_9, .inl (cy 1, 81, .inl (fun _ => 0)))], [(q_10, .inr (4, [.int 0, .int 0, .int 0, .int 0, .int 0, .int 0, .int 0, .int 0, .int 0, .int 0]))]] rfl rfl dX5_init_58 ?_
  refine xr_aload_n (n := 62) (j := 0) C dX5_init_61 rfl rfl ?_
  refine xr_iconst (n := 63) (v := 0) C dX5_init_62 rfl rfl ?_
  refine xr_put (n := 66) C 0 rfl rfl 9 (by decide) in_X5 tyX5 tyX5_ok nmX5 u_260 rfl rfl rfl rfl (Nat.le_of_ble_eq_true rfl) [[(o, .inr (7, [.ref q_1, .ref q_10, .int 0, .int 0, .int 0, .int 0, .int 0, .int 0, .int 0, .int 0, .int 0]))], [(q_1, .inr (3, [.ref q_6, .ref q_7, .int 2, .int 2, .int 2, .int 0, .int 0]))], [(q_6, .inr (6, [.ref q_8]))], [(q_8, .inl (cy 1, 81, .inl (fun _ => 0)))], [(q_7, .inr (6, [.ref q_9]))], [(q_9, .inl (cy 1, 81, .inl (fun _ => 0)))], [(q_10, .inr (4, [.int 0, .int 0, .int 0, .int 0, .int 0, .int 0, .int 0, .int 0, .int 0, .int 0]))]] rfl rfl dX5_init_63 ?_
  refine xr_aload_n (n := 67) (j := 0) C dX5_init_66 rfl rfl ?_
  refine xr_iconst (n := 68) (v := 0) C dX5_init_67 rfl rfl ?_
  refine xr_put (n := 71) C 0 rfl rfl 10 (by decide) in_X5 tyX5 tyX5_ok nmX5 u_262 rfl rfl rfl rfl (Nat.le_of_ble_eq_true rfl) [[(o, .inr (7, [.ref q_1, .ref q_10, .int 0, .int 0, .int 0, .int 0, .int 0, .int 0, .int 0, .int 0, .int 0]))], [(q_1, .inr (3, [.ref q_6, .ref q_7, .int 2, .int 2, .int 2, .int 0, .int 0]))], [(q_6, .inr (6, [.ref q_8]))], [(q_8, .inl (cy 1, 81, .inl (fun _ => 0)))], [(q_7, .inr (6, [.ref q_9]))], [(q_9, .inl (cy 1, 81, .inl (fun _ => 0)))], [(q_10, .inr (4, [.int 0, .int 0, .int 0, .int 0, .int 0, .int 0, .int 0, .int 0, .int 0, .int 0]))]] rfl rfl dX5_init_68 ?_
  obtain rfl := Option.some.inj hR
  exact ret ⟨q_1, q_10, q_6, q_7, q_8, q_9, rfl, rfl⟩ (Nat.le_of_ble_eq_true rfl) (Nat.le_of_ble_eq_true rfl) dX5_init_71
theorem dX6_init_0 : decode cX6_init 0 = .ok (.aload_n 0, 1) := by decide +kernel
theorem dX6_init_1 : decode cX6_init 1 = .ok (.invokespecial 1, 3) := by decide +kernel
theorem dX6_init_4 : decode cX6_init 4 = .ok (.aload_n 0, 1) := by decide +kernel
theorem dX6_init_5 : decode cX6_init 5 = .ok (.new 7, 3) := by decide +kernel
theorem dX6_init_8 : decode cX6_init 8 = .ok (.dup, 1) := by decide +kernel
theorem dX6_init_9 : decode cX6_init 9 = .ok (.invokespecial 9, 3) := by decide +kernel
theorem dX6_init_12 : decode cX6_init 12 = .ok (.putfield 10, 3) := by decide +kernel
theorem dX6_init_15 : decode cX6_init 15 = .ok (.aload_n 0, 1) := by decide +kernel
theorem dX6_init_16 : decode cX6_init 16 = .ok (.new 16, 3) := by decide +kernel
theorem dX6_init_19 : decode cX6_init 19 = .ok (.dup, 1) := by decide +kernel
theorem dX6_init_20 : decode cX6_init 20 = .ok (.invokespecial 18, 3) := by decide +kernel
theorem dX6_init_23 : decode cX6_init 23 = .ok (.putfield 19, 3) := by decide +kernel
theorem dX6_init_26 : decode cX6_init 26 = .ok (.aload_n 0, 1) := by decide +kernel
theorem dX6_init_27 : decode cX6_init 27 = .ok (.new 23, 3) := by decide +kernel
theorem dX6_init_30 : decode cX6_init 30 = .ok (.dup, 1) := by decide +kernel
theorem dX6_init_31 : decode cX6_init 31 = .ok (.invokespecial 25, 3) := by decide +kernel
theorem dX6_init_34 : decode cX6_init 34 = .ok (.putfield 26, 3) := by decide +kernel
theorem dX6_init_37 : decode cX6_init 37 = .ok (.aload_n 0, 1) := by decide +kernel
theorem dX6_init_38 : decode cX6_init 38 = .ok (.new 30, 3) := by decide +kernel
theorem dX6_init_41 : decode cX6_init 41 = .ok (.dup, 1) := by decide +kernel
theorem dX6_init_42 : decode cX6_init 42 = .ok (.invokespecial 32, 3) := by decide +kernel
theorem dX6_init_45 : decode cX6_init 45 = .ok (.putfield 33, 3) := by decide +kernel
theorem dX6_init_48 : decode cX6_init 48 = .ok (.aload_n 0, 1) := by decide +kernel
theorem dX6_init_49 : decode cX6_init 49 = .ok (.new 37, 3) := by decide +kernel
theorem dX6_init_52 : decode cX6_init 52 = .ok (.dup, 1) := by decide +kernel
theorem dX6_init_53 : decode cX6_init 53 = .ok (.invokespecial 39, 3) := by decide +kernel
theorem dX6_init_56 : decode cX6_init 56 = .ok (.putfield 40, 3) := by decide +kernel
theorem dX6_init_59 : decode cX6_init 59 = .ok (.aload_n 0, 1) := by decide +kernel
theorem dX6_init_60 : decode cX6_init 60 = .ok (.new 37, 3) := by decide +kernel
theorem dX6_init_63 : decode cX6_init 63 = .ok (.dup, 1) := by decide +kernel
theorem dX6_init_64 : decode cX6_init 64 = .ok (.invokespecial 39, 3) := by decide +kernel
theorem dX6_init_67 : decode cX6_init 67 = .ok (.putfield 44, 3) := by decide +kernel
theorem dX6_init_70 : decode cX6_init 70 = .ok (.return_, 1) := by decide +kernel
def fX6_init  : Option (Unit) := ((fX1_init).bind fun x_2 => ((fX0_init).bind fun x_11 => ((fX3_init).bind fun x_20 => ((fX5_init).bind fun x_27 => ((fX2_init).bind fun x_38 => ((fX2_init).bind fun x_43 => some ()))))))
abbrev hX6_init : Cond := .code yX6_init cX6_init 1 none
theorem mX6_init : yM yX6_init hX6_init 0 := ⟨u_88, u_57, by decide +kernel, by decide +kernel, by decide +kernel⟩
set_option maxHeartbeats 4000000 in
set_option maxRecDepth 100000 in
theorem kX6_init (l : Launch) (D : va_G) (cy : Nat → ClassId) (x : Nat) {res : Unit} (hR : fX6_init  = some res) : YM l D cy yX6_init hX6_init 4 22 637 [.ref x] [[(x, .inr (8, [.null, .null, .null, .null, .null, .null]))]] (fun v u => ∃ xj : Nat, ∃ xw : Nat, ∃ xz : Nat, ∃ xo : Nat, ∃ xy : Nat, ∃ xt : Nat, ∃ xja : Nat, ∃ xjb : Nat, ∃ xjan : Nat, ∃ xjbn : Nat, ∃ xwu : Nat, ∃ xwm : Nat, ∃ xwun : Nat, ∃ xwmn : Nat, ∃ xzv : Nat, ∃ xzvn : Nat, ∃ xoj : Nat, ∃ xoy : Nat, ∃ xoja : Nat, ∃ xojb : Nat, ∃ xojan : Nat, ∃ xojbn : Nat, v = none ∧ u = [[(x, .inr (8, [.ref xj, .ref xw, .ref xz, .ref xo, .ref xy, .ref xt]))], [(xj, .inr (3, [.ref xja, .ref xjb, .int 2, .int 2, .int 2, .int 0, .int 0]))], [(xja, .inr (6, [.ref xjan]))], [(xjan, .inl (cy 1, 81, .inl (fun _ => 0)))], [(xjb, .inr (6, [.ref xjbn]))], [(xjbn, .inl (cy 1, 81, .inl (fun _ => 0)))], [(xw, .inr (2, [.ref xwu, .ref xwm, .int 0, .int 0]))], [(xwu, .inr (6, [.ref xwun]))], [(xwun, .inl (cy 1, 81, .inl (fun _ => 0)))], [(xwm, .inr (6, [.ref xwmn]))], [(xwmn, .inl (cy 1, 81, .inl (fun _ => 0)))], [(xz, .inr (5, [.ref xzv, .int 0, .int 0, .int 0]))], [(xzv, .inr (6, [.ref xzvn]))], [(xzvn, .inl (cy 1, 81, .inl (fun _ => 0)))], [(xo, .inr (7, [.ref xoj, .ref xoy, .int 0, .int 0, .int 0, .int 0, .int 0, .int 0, .int 0, .int 0, .int 0]))], [(xoj, .inr (3, [.ref xoja, .ref xojb, .int 2, .int 2, .int 2, .int 0, .int 0]))], [(xoja, .inr (6, [.ref xojan]))], [(xojan, .inl (cy 1, 81, .inl (fun _ => 0)))], [(xojb, .inr (6, [.ref xojbn]))], [(xojbn, .inl (cy 1, 81, .inl (fun _ => 0)))], [(xoy, .inr (4, [.int 0, .int 0, .int 0, .int 0, .int 0, .int 0, .int 0, .int 0, .int 0, .int 0]))], [(xy, .inr (4, [.int 0, .int 0, .int 0, .int 0, .int 0, .int 0, .int 0, .int 0, .int 0, .int 0]))], [(xt, .inr (4, [.int 0, .int 0, .int 0, .int 0, .int 0, .int 0, .int 0, .int 0, .int 0, .int 0]))]]) := by
  unfold fX6_init at hR
  refine YM.ofV (cc := cX6_init) (maxL := 1) (ret := none) (by decide +kernel) rfl (Nat.le_of_ble_eq_true rfl) [(0, .ref x)] rfl rfl (fun p e s m args below meth c A H0 Q C hnm ret => ?_)
  refine xr_aload_n (n := 1) (j := 0) C dX6_init_0 rfl rfl ?_
  refine xr_objInit (n := 4) C u_89 u_90 u_91 (Nat.le_of_ble_eq_true rfl) (Nat.le_of_ble_eq_true rfl) (Nat.le_of_ble_eq_true rfl) dX6_init_1 rfl ?_
  refine xr_aload_n (n := 5) (j := 0) C dX6_init_4 rfl rfl ?_
  refine xr_new (n := 8) (ci := 3) C tyX1 tyX1_ok in_X1 u_92 u_93 u_58 rfl [.null, .null, .int 0, .int 0, .int 0, .int 0, .int 0] (by decide) (Nat.le_of_ble_eq_true rfl) (Nat.le_of_ble_eq_true rfl) dX6_init_5 rfl (fun q_1 => ?_)
  refine xr_eq (bs' := [[(x, .inr (8, [.null, .null, .null, .null, .null, .null]))], [(q_1, .inr (3, [.null, .null, .int 0, .int 0, .int 0, .int 0, .int 0]))]]) rfl ?_
  refine xr_dup (n := 9) C dX6_init_8 rfl rfl ?_
  obtain ⟨x_2, hx_2, hR⟩ := yf_b hR
  refine xr_callIN (n := 12) (As := []) (rest := [.ref q_1, .ref x]) C (kX1_init l D cy (j := q_1) hx_2) mX1_init (host := RX6) (List.mem_of_getElem? (i := 0) rfl) u_95 rfl 2 [1] [0] rfl (by decide +kernel) rfl rfl rfl rfl (Nat.le_of_ble_eq_true rfl) (Nat.le_of_ble_eq_true rfl) (Nat.le_of_ble_eq_true rfl) (Nat.le_of_ble_eq_true rfl) (Nat.le_of_ble_eq_true rfl) dX6_init_9 rfl (fun v_3 u_4 hp_5 => ?_)
  obtain ⟨q_6, q_7, q_8, q_9, rfl, rfl⟩ := hp_5
  refine xr_perm C 6 [5, 0, 1, 2, 3, 4] [] [[(x, .inr (8, [.null, .null, .null, .null, .null, .null]))], [(q_1, .inr (3, [.ref q_6, .ref q_7, .int 2, .int 2, .int 2, .int 0, .int 0]))], [(q_6, .inr (6, [.ref q_8]))], [(q_8, .inl (cy 1, 81, .inl (fun _ => 0)))], [(q_7, .inr (6, [.ref q_9]))], [(q_9, .inl (cy 1, 81, .inl (fun _ => 0)))]] rfl (by decide +kernel) rfl ?_
  refine xr_putF (n := 15) C 0 rfl rfl 0 (by decide) in_X6 tyX6 tyX6_ok nmX6 u_289 rfl rfl hnm rfl rfl rfl (Nat.le_of_ble_eq_true rfl) [[(x, .inr (8, [.ref q_1, .null, .null, .null, .null, .null]))], [(q_1, .inr (3, [.ref q_6, .ref q_7, .int 2, .int 2, .int 2, .int 0, .int 0]))], [(q_6, .inr (6, [.ref q_8]))], [(q_8, .inl (cy 1, 81, .inl (fun _ => 0)))], [(q_7, .inr (6, [.ref q_9]))], [(q_9, .inl (cy 1, 81, .inl (fun _ => 0)))]] rfl rfl dX6_init_12 ?_
  refine xr_aload_n (n := 16) (j := 0) C dX6_init_15 rfl rfl ?_
  refine xr_new (n := 19) (ci := 2) C tyX0 tyX0_ok in_X0 u_139 u_140 u_60 rfl [.null, .null, .int 0, .int 0] (by decide) (Nat.le_of_ble_eq_true rfl) (Nat.le_of_ble_eq_true rfl) dX6_init_16 rfl (fun q_10 => ?_)
  refine xr_eq (bs' := [[(x, .inr (8, [.ref q_1, .null, .null, .null, .null, .null]))], [(q_1, .inr (3, [.ref q_6, .ref q_7, .int 2, .int 2, .int 2, .int 0, .int 0]))], [(q_6, .inr (6, [.ref q_8]))], [(q_8, .inl (cy 1, 81, .inl (fun _ => 0)))], [(q_7, .inr (6, [.ref q_9]))], [(q_9, .inl (cy 1, 81, .inl (fun _ => 0)))], [(q_10, .inr (2, [.null, .null, .int 0, .int 0]))]]) rfl ?_
  refine xr_dup (n := 20) C dX6_init_19 rfl rfl ?_
  obtain ⟨x_11, hx_11, hR⟩ := yf_b hR
  refine xr_callIN (n := 23) (As := []) (rest := [.ref q_10, .ref x]) C (kX0_init l D cy (w := q_10) hx_11) mX0_init (host := RX6) (List.mem_of_getElem? (i := 10) rfl) u_142 rfl 7 [6] [0, 1, 2, 3, 4, 5] rfl (by decide +kernel) rfl rfl rfl rfl (Nat.le_of_ble_eq_true rfl) (Nat.le_of_ble_eq_true rfl) (Nat.le_of_ble_eq_true rfl) (Nat.le_of_ble_eq_true rfl) (Nat.le_of_ble_eq_true rfl) dX6_init_20 rfl (fun v_12 u_13 hp_14 => ?_)
  obtain ⟨q_15, q_16, q_17, q_18, rfl, rfl⟩ := hp_14
  refine xr_perm C 11 [5, 6, 7, 8, 9, 10, 0, 1, 2, 3, 4] [] [[(x, .inr (8, [.ref q_1, .null, .null, .null, .null, .null]))], [(q_1, .inr (3, [.ref q_6, .ref q_7, .int 2, .int 2, .int 2, .int 0, .int 0]))], [(q_6, .inr (6, [.ref q_8]))], [(q_8, .inl (cy 1, 81, .inl (fun _ => 0)))], [(q_7, .inr (6, [.ref q_9]))], [(q_9, .inl (cy 1, 81, .inl (fun _ => 0)))], [(q_10, .inr (2, [.ref q_15, .ref q_16, .int 0, .int 0]))], [(q_15, .inr (6, [.ref q_17]))], [(q_17, .inl (cy 1, 81, .inl (fun _ => 0)))], [(q_16, .inr (6, [.ref q_18]))], [(q_18, .inl (cy 1, 81, .inl (fun _ => 0)))]] rfl (by decide +kernel) rfl ?_
  refine xr_putF (n := 26) C 0 rfl rfl 1 (by decide) in_X6 tyX6 tyX6_ok nmX6 u_290 rfl rfl hnm rfl rfl rfl (Nat.le_of_ble_eq_true rfl) [[(x, .inr (8, [.ref q_1, .ref q_10, .null, .null, .null, .null]))], [(q_1, .inr (3, [.ref q_6, .ref q_7, .int 2, .int 2, .int 2, .int 0, .int 0]))], [(q_6, .inr (6, [.ref q_8]))], [(q_8, .inl (cy 1, 81, .inl (fun _ => 0)))], [(q_7, .inr (6, [.ref q_9]))], [(q_9, .inl (cy 1, 81, .inl (fun _ => 0)))], [(q_10, .inr (2, [.ref q_15, .ref q_16, .int 0, .int 0]))], [(q_15, .inr (6, [.ref q_17]))], [(q_17, .inl (cy 1, 81, .inl (fun _ => 0)))], [(q_16, .inr (6, [.ref q_18]))], [(q_18, .inl (cy 1, 81, .inl (fun _ => 0)))]] rfl rfl dX6_init_23 ?_
  refine xr_aload_n (n := 27) (j := 0) C dX6_init_26 rfl rfl ?_
  refine xr_new (n := 30) (ci := 5) C tyX3 tyX3_ok in_X3 u_165 u_166 u_61 rfl [.null, .int 0, .int 0, .int 0] (by decide) (Nat.le_of_ble_eq_true rfl) (Nat.le_of_ble_eq_true rfl) dX6_init_27 rfl (fun q_19 => ?_)
  refine xr_eq (bs' := [[(x, .inr (8, [.ref q_1, .ref q_10, .null, .null, .null, .null]))], [(q_1, .inr (3, [.ref q_6, .ref q_7, .int 2, .int 2, .int 2, .int 0, .int 0]))], [(q_6, .inr (6, [.ref q_8]))], [(q_8, .inl (cy 1, 81, .inl (fun _ => 0)))], [(q_7, .inr (6, [.ref q_9]))], [(q_9, .inl (cy 1, 81, .inl (fun _ => 0)))], [(q_10, .inr (2, [.ref q_15, .ref q_16, .int 0, .int 0]))], [(q_15, .inr (6, [.ref q_17]))], [(q_17, .inl (cy 1, 81, .inl (fun _ => 0)))], [(q_16, .inr (6, [.ref q_18]))], [(q_18, .inl (cy 1, 81, .inl (fun _ => 0)))], [(q_19, .inr (5, [.null, .int 0, .int 0, .int 0]))]]) rfl ?_
  refine xr_dup (n := 31) C dX6_init_30 rfl rfl ?_
  obtain ⟨x_20, hx_20, hR⟩ := yf_b hR
  refine xr_callIN (n := 34) (As := []) (rest := [.ref q_19, .ref x]) C (kX3_init l D cy (z := q_19) hx_20) mX3_init (host := RX6) (List.mem_of_getElem? (i := 17) rfl) u_168 rfl 12 [11] [0, 1, 2, 3, 4, 5, 6, 7, 8, 9, 10] rfl (by decide +kernel) rfl rfl rfl rfl (Nat.le_of_ble_eq_true rfl) (Nat.le_of_ble_eq_true rfl) (Nat.le_of_ble_eq_true rfl) (Nat.le_of_ble_eq_true rfl) (Nat.le_of_ble_eq_true rfl) dX6_init_31 rfl (fun v_21 u_22 hp_23 => ?_)
  obtain ⟨q_24, q_25, rfl, rfl⟩ := hp_23
  refine xr_perm C 14 [3, 4, 5, 6, 7, 8, 9, 10, 11, 12, 13, 0, 1, 2] [] [[(x, .inr (8, [.ref q_1, .ref q_10, .null, .null, .null, .null]))], [(q_1, .inr (3, [.ref q_6, .ref q_7, .int 2, .int 2, .int 2, .int 0, .int 0]))], [(q_6, .inr (6, [.ref q_8]))], [(q_8, .inl (cy 1, 81, .inl (fun _ => 0)))], [(q_7, .inr (6, [.ref q_9]))], [(q_9, .inl (cy 1, 81, .inl (fun _ => 0)))], [(q_10, .inr (2, [.ref q_15, .ref q_16, .int 0, .int 0]))], [(q_15, .inr (6, [.ref q_17]))], [(q_17, .inl (cy 1, 81, .inl (fun _ => 0)))], [(q_16, .inr (6, [.ref q_18]))], [(q_18, .inl (cy 1, 81, .inl (fun _ => 0)))], [(q_19, .inr (5, [.ref q_24, .int 0, .int 0, .int 0]))], [(q_24, .inr (6, [.ref q_25]))], [(q_25, .inl (cy 1, 81, .inl (fun _ => 0)))]] rfl (by decide +kernel) rfl ?_
  refine xr_putF (n := 37) C 0 rfl rfl 2 (by decide) in_X6 tyX6 tyX6_ok nmX6 u_291 rfl rfl hnm rfl rfl rfl (Nat.le_of_ble_eq_true rfl) [[(x, .inr (8, [.ref q_1, .ref q_10, .ref q_19, .null, .null, .null]))], [(q_1, .inr (3, [.ref q_6, .ref q_7, .int 2, .int 2, .int 2, .int 0, .int 0]))], [(q_6, .inr (6, [.ref q_8]))], [(q_8, .inl (cy 1, 81, .inl (fun _ => 0)))], [(q_7, .inr (6, [.ref q_9]))], [(q_9, .inl (cy 1, 81, .inl (fun _ => 0)))], [(q_10, .inr (2, [.ref q_15, .ref q_16, .int 0, .int 0]))], [(q_15, .inr (6, [.ref q_17]))], [(q_17, .inl (cy 1, 81, .inl (fun _ => 0)))], [(q_16, .inr (6, [.ref q_18]))], [(q_18, .inl (cy 1, 81, .inl (fun _ => 0)))], [(q_19, .inr (5, [.ref q_24, .int 0, .int 0, .int 0]))], [(q_24, .inr (6, [.ref q_25]))], [(q_25, .inl (cy 1, 81, .inl (fun _ => 0)))]] rfl rfl dX6_init_34 ?_
  refine xr_aload_n (n := 38) (j := 0) C dX6_init_37 rfl rfl ?_
  refine xr_new (n := 41) (ci := 7) C tyX5 tyX5_ok in_X5 u_191 u_192 u_62 rfl [.null, .null, .int 0, .int 0, .int 0, .int 0, .int 0, .int 0, .int 0, .int 0, .int 0] (by decide) (Nat.le_of_ble_eq_true rfl) (Nat.le_of_ble_eq_true rfl) dX6_init_38 rfl (fun q_26 => ?_)
  refine xr_eq (bs' := [[(x, .inr (8, [.ref q_1, .ref q_10, .ref q_19, .null, .null, .null]))], [(q_1, .inr (3, [.ref q_6, .ref q_7, .int 2, .int 2, .int 2, .int 0, .int 0]))], [(q_6, .inr (6, [.ref q_8]))], [(q_8, .inl (cy 1, 81, .inl (fun _ => 0)))], [(q_7, .inr (6, [.ref q_9]))], [(q_9, .inl (cy 1, 81, .inl (fun _ => 0)))], [(q_10, .inr (2, [.ref q_15, .ref q_16, .int 0, .int 0]))], [(q_15, .inr (6, [.ref q_17]))], [(q_17, .inl (cy 1, 81, .inl (fun _ => 0)))], [(q_16, .inr (6, [.ref q_18]))], [(q_18, .inl (cy 1, 81, .inl (fun _ => 0)))], [(q_19, .inr (5, [.ref q_24, .int 0, .int 0, .int 0]))], [(q_24, .inr (6, [.ref q_25]))], [(q_25, .inl (cy 1, 81, .inl (fun _ => 0)))], [(q_26, .inr (7, [.null, .null, .int 0, .int 0, .int 0, .int 0, .int 0, .int 0, .int 0, .int 0, .int 0]))]]) rfl ?_
  refine xr_dup (n := 42) C dX6_init_41 rfl rfl ?_
  obtain ⟨x_27, hx_27, hR⟩ := yf_b hR
  refine xr_callIN (n := 45) (As := []) (rest := [.ref q_26, .ref x]) C (kX5_init l D cy (o := q_26) hx_27) mX5_init (host := RX6) (List.mem_of_getElem? (i := 24) rfl) u_194 rfl 15 [14] [0, 1, 2, 3, 4, 5, 6, 7, 8, 9, 10, 11, 12, 13] rfl (by decide +kernel) rfl rfl rfl rfl (Nat.le_of_ble_eq_true rfl) (Nat.le_of_ble_eq_true rfl) (Nat.le_of_ble_eq_true rfl) (Nat.le_of_ble_eq_true rfl) (Nat.le_of_ble_eq_true rfl) dX6_init_42 rfl (fun v_28 u_29 hp_30 => ?_)
  obtain ⟨q_31, q_32, q_33, q_34, q_35, q_36, rfl, rfl⟩ := hp_30
  refine xr_perm C 21 [7, 8, 9, 10, 11, 12, 13, 14, 15, 16, 17, 18, 19, 20, 0, 1, 2, 3, 4, 5, 6] [] [[(x, .inr (8, [.ref q_1, .ref q_10, .ref q_19, .null, .null, .null]))], [(q_1, .inr (3, [.ref q_6, .ref q_7, .int 2, .int 2, .int 2, .int 0, .int 0]))], [(q_6, .inr (6, [.ref q_8]))], [(q_8, .inl (cy 1, 81, .inl (fun _ => 0)))], [(q_7, .inr (6, [.ref q_9]))], [(q_9, .inl (cy 1, 81, .inl (fun _ => 0)))], [(q_10, .inr (2, [.ref q_15, .ref q_16, .int 0, .int 0]))], [(q_15, .inr (6, [.ref q_17]))], [(q_17, .inl (cy 1, 81, .inl (fun _ => 0)))], [(q_16, .inr (6, [.ref q_18]))], [(q_18, .inl (cy 1, 81, .inl (fun _ => 0)))], [(q_19, .inr (5, [.ref q_24, .int 0, .int 0, .int 0]))], [(q_24, .inr (6, [.ref q_25]))], [(q_25, .inl (cy 1, 81, .inl (fun _ => 0)))], [(q_26, .inr (7, [.ref q_31, .ref q_32, .int 0, .int 0, .int 0, .int 0, .int 0, .int 0, .int 0, .int 0, .int 0]))], [(q_31, .inr (3, [.ref q_33, .ref q_34, .int 2, .int 2, .int 2, .int 0, .int 0]))], [(q_33, .inr (6, [.ref q_35]))], [(q_35, .inl (cy 1, 81, .inl (fun _ => 0)))], [(q_34, .inr (6, [.ref q_36]))], [(q_36, .inl (cy 1, 81, .inl (fun _ => 0)))], [(q_32, .inr (4, [.int 0, .int 0, .int 0, .int 0, .int 0, .int 0, .int 0, .int 0, .int 0, .int 0]))]] rfl (by decide +kernel) rfl ?_
  refine xr_putF (n := 48) C 0 rfl rfl 3 (by decide) in_X6 tyX6 tyX6_ok nmX6 u_292 rfl rfl hnm rfl rfl rfl (Nat.le_of_ble_eq_true rfl) [[(x, .inr (8, [.ref q_1, .ref q_10, .ref q_19, .ref q_26, .null, .null]))], [(q_1, .inr (3, [.ref q_6, .ref q_7, .int 2, .int 2, .int 2, .int 0, .int 0]))], [(q_6, .inr (6, [.ref q_8]))], [(q_8, .inl (cy 1, 81, .inl (fun _ => 0)))], [(q_7, .inr (6, [.ref q_9]))], [(q_9, .inl (cy 1, 81, .inl (fun _ => 0)))], [(q_10, .inr (2, [.ref q_15, .ref q_16, .int 0, .int 0]))], [(q_15, .inr (6, [.ref q_17]))], [(q_17, .inl (cy 1, 81, .inl (fun _ => 0)))], [(q_16, .inr (6, [.ref q_18]))], [(q_18, .inl (cy 1, 81, .inl (fun _ => 0)))], [(q_19, .inr (5, [.ref q_24, .int 0, .int 0, .int 0]))], [(q_24, .inr (6, [.ref q_25]))], [(q_25, .inl (cy 1, 81, .inl (fun _ => 0)))], [(q_26, .inr (7, [.ref q_31, .ref q_32, .int 0, .int 0, .int 0, .int 0, .int 0, .int 0, .int 0, .int 0, .int 0]))], [(q_31, .inr (3, [.ref q_33, .ref q_34, .int 2, .int 2, .int 2, .int 0, .int 0]))], [(q_33, .inr (6, [.ref q_35]))], [(q_35, .inl (cy 1, 81, .inl (fun _ => 0)))], [(q_34, .inr (6, [.ref q_36]))], [(q_36, .inl (cy 1, 81, .inl (fun _ => 0)))], [(q_32, .inr (4, [.int 0, .int 0, .int 0, .int 0, .int 0, .int 0, .int 0, .int 0, .int 0, .int 0]))]] rfl rfl dX6_init_45 ?_
  refine xr_aload_n (n := 49) (j := 0) C dX6_init_48 rfl rfl ?_
  refine xr_new (n := 52) (ci := 4) C tyX2 tyX2_ok in_X2 u_287 u_200 u_63 rfl [.int 0, .int 0, .int 0, .int 0, .int 0, .int 0, .int 0, .int 0, .int 0, .int 0] (by decide) (Nat.le_of_ble_eq_true rfl) (Nat.le_of_ble_eq_true rfl) dX6_init_49 rfl (fun q_37 => ?_)
  refine xr_eq (bs' := [[(x, .inr (8, [.ref q_1, .ref q_10, .ref q_19, .ref q_26, .null, .null]))], [(q_1, .inr (3, [.ref q_6, .ref q_7, .int 2, .int 2, .int 2, .int 0, .int 0]))], [(q_6, .inr (6, [.ref q_8]))], [(q_8, .inl (cy 1, 81, .inl (fun _ => 0)))], [(q_7, .inr (6, [.ref q_9]))], [(q_9, .inl (cy 1, 81, .inl (fun _ => 0)))], [(q_10, .inr (2, [.ref q_15, .ref q_16, .int 0, .int 0]))], [(q_15, .inr (6, [.ref q_17]))], [(q_17, .inl (cy 1, 81, .inl (fun _ => 0)))], [(q_16, .inr (6, [.ref q_18]))], [(q_18, .inl (cy 1, 81, .inl (fun _ => 0)))], [(q_19, .inr (5, [.ref q_24, .int 0, .int 0, .int 0]))], [(q_24, .inr (6, [.ref q_25]))], [(q_25, .inl (cy 1, 81, .inl (fun _ => 0)))], [(q_26, .inr (7, [.ref q_31, .ref q_32, .int 0, .int 0, .int 0, .int 0, .int 0, .int 0, .int 0, .int 0, .int 0]))], [(q_31, .inr (3, [.ref q_33, .ref q_34, .int 2, .int 2, .int 2, .int 0, .int 0]))], [(q_33, .inr (6, [.ref q_35]))], [(q_35, .inl (cy 1, 81, .inl (fun _ => 0)))], [(q_34, .inr (6, [.ref q_36]))], [(q_36, .inl (cy 1, 81, .inl (fun _ => 0)))], [(q_32, .inr (4, [.int 0, .int 0, .int 0, .int 0, .int 0, .int 0, .int 0, .int 0, .int 0, .int 0]))], [(q_37, .inr (4, [.int 0, .int 0, .int 0, .int 0, .int 0, .int 0, .int 0, .int 0, .int 0, .int 0]))]]) rfl ?_
  refine xr_dup (n := 53) C dX6_init_52 rfl rfl ?_
  obtain ⟨x_38, hx_38, hR⟩ := yf_b hR
  refine xr_callINp (n := 56) (As := []) (rest := [.ref q_37, .ref x]) C (kX2_init l D cy (y := q_37) hx_38) mX2_init (host := RX6) (List.mem_of_getElem? (i := 44) rfl) u_202 rfl 22 [21] [0, 1, 2, 3, 4, 5, 6, 7, 8, 9, 10, 11, 12, 13, 14, 15, 16, 17, 18, 19, 20] rfl (by decide +kernel) rfl rfl rfl rfl (Nat.le_of_ble_eq_true rfl) (Nat.le_of_ble_eq_true rfl) (Nat.le_of_ble_eq_true rfl) (Nat.le_of_ble_eq_true rfl) (Nat.le_of_ble_eq_true rfl) dX6_init_53 rfl (fun _ _ hp => hp.2) (fun v_39 hp_41 => ?_)
  obtain ⟨rfl, -⟩ := hp_41
  refine xr_putF (n := 59) C 0 rfl rfl 4 (by decide) in_X6 tyX6 tyX6_ok nmX6 u_293 rfl rfl hnm rfl rfl rfl (Nat.le_of_ble_eq_true rfl) [[(x, .inr (8, [.ref q_1, .ref q_10, .ref q_19, .ref q_26, .ref q_37, .null]))], [(q_1, .inr (3, [.ref q_6, .ref q_7, .int 2, .int 2, .int 2, .int 0, .int 0]))], [(q_6, .inr (6, [.ref q_8]))], [(q_8, .inl (cy 1, 81, .inl (fun _ => 0)))], [(q_7, .inr (6, [.ref q_9]))], [(q_9, .inl (cy 1, 81, .inl (fun _ => 0)))], [(q_10, .inr (2, [.ref q_15, .ref q_16, .int 0, .int 0]))], [(q_15, .inr (6, [.ref q_17]))], [(q_17, .inl (cy 1, 81, .inl (fun _ => 0)))], [(q_16, .inr (6, [.ref q_18]))], [(q_18, .inl (cy 1, 81, .inl (fun _ => 0)))], [(q_19, .inr (5, [.ref q_24, .int 0, .int 0, .int 0]))], [(q_24, .inr (6, [.ref q_25]))], [(q_25, .inl (cy 1, 81, .inl (fun _ => 0)))], [(q_26, .inr (7, [.ref q_31, .ref q_32, .int 0, .int 0, .int 0, .int 0, .int 0, .int 0, .int 0, .int 0, .int 0]))], [(q_31, .inr (3, [.ref q_33, .ref q_34, .int 2, .int 2, .int 2, .int 0, .int 0]))], [(q_33, .inr (6, [.ref q_35]))], [(q_35, .inl (cy 1, 81, .inl (fun _ => 0)))], [(q_34, .inr (6, [.ref q_36]))], [(q_36, .inl (cy 1, 81, .inl (fun _ => 0)))], [(q_32, .inr (4, [.int 0, .int 0, .int 0, .int 0, .int 0, .int 0, .int 0, .int 0, .int 0, .int 0]))], [(q_37, .inr (4, [.int 0, .int 0, .int 0, .int 0, .int 0, .int 0, .int 0, .int 0, .int 0, .int 0]))]] rfl rfl dX6_init_56 ?_
  refine xr_aload_n (n := 60) (j := 0) C dX6_init_59 rfl rfl ?_
  refine xr_new (n := 63) (ci := 4) C tyX2 tyX2_ok in_X2 u_287 u_200 u_63 rfl [.int 0, .int 0, .int 0, .int 0, .int 0, .int 0, .int 0, .int 0, .int 0, .int 0] (by decide) (Nat.le_of_ble_eq_true rfl) (Nat.le_of_ble_eq_true rfl) dX6_init_60 rfl (fun q_42 => ?_)
  refine xr_eq (bs' := [[(x, .inr (8, [.ref q_1, .ref q_10, .ref q_19, .ref q_26, .ref q_37, .null]))], [(q_1, .inr (3, [.ref q_6, .ref q_7, .int 2, .int 2, .int 2, .int 0, .int 0]))], [(q_6, .inr (6, [.ref q_8]))], [(q_8, .inl (cy 1, 81, .inl (fun _ => 0)))], [(q_7, .inr (6, [.ref q_9]))], [(q_9, .inl (cy 1, 81, .inl (fun _ => 0)))], [(q_10, .inr (2, [.ref q_15, .ref q_16, .int 0, .int 0]))], [(q_15, .inr (6, [.ref q_17]))], [(q_17, .inl (cy 1, 81, .inl (fun _ => 0)))], [(q_16, .inr (6, [.ref q_18]))], [(q_18, .inl (cy 1, 81, .inl (fun _ => 0)))], [(q_19, .inr (5, [.ref q_24, .int 0, .int 0, .int 0]))], [(q_24, .inr (6, [.ref q_25]))], [(q_25, .inl (cy 1, 81, .inl (fun _ => 0)))], [(q_26, .inr (7, [.ref q_31, .ref q_32, .int 0, .int 0, .int 0, .int 0, .int 0, .int 0, .int 0, .int 0, .int 0]))], [(q_31, .inr (3, [.ref q_33, .ref q_34, .int 2, .int 2, .int 2, .int 0, .int 0]))], [(q_33, .inr (6, [.ref q_35]))], [(q_35, .inl (cy 1, 81, .inl (fun _ => 0)))], [(q_34, .inr (6, [.ref q_36]))], [(q_36, .inl (cy 1, 81, .inl (fun _ => 0)))], [(q_32, .inr (4, [.int 0, .int 0, .int 0, .int 0, .int 0, .int 0, .int 0, .int 0, .int 0, .int 0]))], [(q_37, .inr (4, [.int 0, .int 0, .int 0, .int 0, .int 0, .int 0, .int 0, .int 0, .int 0, .int 0]))], [(q_42, .inr (4, [.int 0, .int 0, .int 0, .int 0, .int 0, .int 0, .int 0, .int 0, .int 0, .int 0]))]]) rfl ?_
  refine xr_dup (n := 64) C dX6_init_63 rfl rfl ?_
  obtain ⟨x_43, hx_43, hR⟩ := yf_b hR
  refine xr_callINp (n := 67) (As := []) (rest := [.ref q_42, .ref x]) C (kX2_init l D cy (y := q_42) hx_43) mX2_init (host := RX6) (List.mem_of_getElem? (i := 44) rfl) u_202 rfl 23 [22] [0, 1, 2, 3, 4, 5, 6, 7, 8, 9, 10, 11, 12, 13, 14, 15, 16, 17, 18, 19, 20, 21] rfl (by decide +kernel) rfl rfl rfl rfl (Nat.le_of_ble_eq_true rfl) (Nat.le_of_ble_eq_true rfl) (Nat.le_of_ble_eq_true rfl) (Nat.le_of_ble_eq_true rfl) (Nat.le_of_ble_eq_true rfl) dX6_init_64 rfl (fun _ _ hp => hp.2) (fun v_44 hp_46 => ?_)
  obtain ⟨rfl, -⟩ := hp_46
  refine xr_putF (n := 70) C 0 rfl rfl 5 (by decide) in_X6 tyX6 tyX6_ok nmX6 u_294 rfl rfl hnm rfl rfl rfl (Nat.le_of_ble_eq_true rfl) [[(x, .inr (8, [.ref q_1, .ref q_10, .ref q_19, .ref q_26, .ref q_37, .ref q_42]))], [(q_1, .inr (3, [.ref q_6, .ref q_7, .int 2, .int 2, .int 2, .int 0, .int 0]))], [(q_6, .inr (6, [.ref q_8]))], [(q_8, .inl (cy 1, 81, .inl (fun _ => 0)))], [(q_7, .inr (6, [.ref q_9]))], [(q_9, .inl (cy 1, 81, .inl (fun _ => 0)))], [(q_10, .inr (2, [.ref q_15, .ref q_16, .int 0, .int 0]))], [(q_15, .inr (6, [.ref q_17]))], [(q_17, .inl (cy 1, 81, .inl (fun _ => 0)))], [(q_16, .inr (6, [.ref q_18]))], [(q_18, .inl (cy 1, 81, .inl (fun _ => 0)))], [(q_19, .inr (5, [.ref q_24, .int 0, .int 0, .int 0]))], [(q_24, .inr (6, [.ref q_25]))], [(q_25, .inl (cy 1, 81, .inl (fun _ => 0)))], [(q_26, .inr (7, [.ref q_31, .ref q_32, .int 0, .int 0, .int 0, .int 0, .int 0, .int 0, .int 0, .int 0, .int 0]))], [(q_31, .inr (3, [.ref q_33, .ref q_34, .int 2, .int 2, .int 2, .int 0, .int 0]))], [(q_33, .inr (6, [.ref q_35]))], [(q_35, .inl (cy 1, 81, .inl (fun _ => 0)))], [(q_34, .inr (6, [.ref q_36]))], [(q_36, .inl (cy 1, 81, .inl (fun _ => 0)))], [(q_32, .inr (4, [.int 0, .int 0, .int 0, .int 0, .int 0, .int 0, .int 0, .int 0, .int 0, .int 0]))], [(q_37, .inr (4, [.int 0, .int 0, .int 0, .int 0, .int 0, .int 0, .int 0, .int 0, .int 0, .int 0]))], [(q_42, .inr (4, [.int 0, .int 0, .int 0, .int 0, .int 0, .int 0, .int 0, .int 0, .int 0, .int 0]))]] rfl rfl dX6_init_67 ?_
  obtain rfl := Option.some.inj hR
  exact ret ⟨q_1, q_10, q_19, q_26, q_37, q_42, q_6, q_7, q_8, q_9, q_15, q_16, q_17, q_18, q_24, q_25, q_31, q_32, q_33, q_34, q_35, q_36, rfl, rfl⟩ (Nat.le_of_ble_eq_true rfl) (Nat.le_of_ble_eq_true rfl) dX6_init_70
