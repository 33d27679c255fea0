theorem u_1064 : Cond.methodLink RJ7 339 yJ7_copyOfRangeByte_39247 ∈ yU := yu_tables_1_5 48 (by decide +kernel) (by decide +kernel)
theorem u_1065 : Cond.static yJ7_copyOfRangeByte_39247 ∈ yU := yu_tables_1_5 49 (by decide +kernel) (by decide +kernel)
theorem u_1063 : Cond.code yJ7_copyOfRange_39247 cJ7_copyOfRange_39247 3 (some (.array .byte)) ∈ yU := yu_tables_1_5 47 (by decide +kernel) (by decide +kernel)
theorem u_1046 : Cond.methodLink RJ0 1 objectInit ∈ yU := yu_tables_1_5 30 (by decide +kernel) (by decide +kernel)
theorem u_1047 : Cond.methodLink RJ0 552 yJ5_getValue_6d5f1 ∈ yU := yu_tables_1_5 31 (by decide +kernel) (by decide +kernel)
theorem u_1048 : Cond.instanceMethod yJ5_getValue_6d5f1 ∈ yU := yu_tables_1_5 32 (by decide +kernel) (by decide +kernel)
theorem u_1049 : Cond.sameMethod RJ5 RJ5 "getValue" "()[B" ∈ yU := yu_tables_1_5 33 (by decide +kernel) (by decide +kernel)
theorem u_1050 : Cond.selects RJ4 yJ5_getValue_6d5f1 yJ5_getValue_6d5f1 ∈ yU := yu_tables_1_5 34 (by decide +kernel) (by decide +kernel)
theorem u_1052 : Cond.methodLink RJ0 549 yJ5_length_8abf5 ∈ yU := yu_tables_1_5 36 (by decide +kernel) (by decide +kernel)
theorem u_1056 : Cond.instanceMethod yJ4_length_8abf5 ∈ yU := yu_tables_1_5 40 (by decide +kernel) (by decide +kernel)
theorem u_1055 : Cond.selects RJ4 yJ5_length_8abf5 yJ4_length_8abf5 ∈ yU := yu_tables_1_5 39 (by decide +kernel) (by decide +kernel)
theorem u_1060 : Cond.methodLink RJ0 1047 yJ5_isLatin1_aae02 ∈ yU := yu_tables_1_5 44 (by decide +kernel) (by decide +kernel)
theorem u_1162 : Cond.fieldLink RJ0 15 "java/lang/String" "code\x72" "B" ∈ yU := yu_tables_1_5 146 (by decide +kernel) (by decide +kernel)
theorem u_1061 : Cond.methodLink RJ0 54 yJ7_copyOfRange_39247 ∈ yU := yu_tables_1_5 45 (by decide +kernel) (by decide +kernel)
theorem u_1062 : Cond.static yJ7_copyOfRange_39247 ∈ yU := yu_tables_1_5 46 (by decide +kernel) (by decide +kernel)
theorem u_1161 : Cond.fieldLink RJ0 9 "java/lang/String" "value" "[B" ∈ yU := yu_tables_1_5 145 (by decide +kernel) (by decide +kernel)
theorem u_1045 : Cond.code yJ0_init_db425 cJ0_init_db425 5 none ∈ yU := yu_tables_1_5 29 (by decide +kernel) (by decide +kernel)
theorem u_77 : Cond.initialized RJ0 ∈ yU := yu_tables_1_1 21 (by decide +kernel) (by decide +kernel)
theorem u_1043 : Cond.methodLink RJ0 489 yJ0_init_db425 ∈ yU := yu_tables_1_5 27 (by decide +kernel) (by decide +kernel)
theorem u_1044 : Cond.instanceMethod yJ0_init_db425 ∈ yU := yu_tables_1_5 28 (by decide +kernel) (by decide +kernel)
theorem u_1042 : Cond.code yJ0_init_81219 cJ0_init_81219 2 none ∈ yU := yu_tables_1_5 26 (by decide +kernel) (by decide +kernel)
theorem u_1038 : Cond.classLink RJ4 18 RJ0 ∈ yU := yu_tables_1_5 22 (by decide +kernel) (by decide +kernel)
theorem u_1039 : Cond.instantiable RJ0 4 ∈ yU := yu_tables_1_5 23 (by decide +kernel) (by decide +kernel)
theorem u_1040 : Cond.methodLink RJ4 137 yJ0_init_81219 ∈ yU := yu_tables_1_5 24 (by decide +kernel) (by decide +kernel)
theorem u_1041 : Cond.instanceMethod yJ0_init_81219 ∈ yU := yu_tables_1_5 25 (by decide +kernel) (by decide +kernel)
theorem u_1037 : Cond.code yJ4_toString_0e30d cJ4_toString_0e30d 1 (some (.object "java/lang/String")) ∈ yU := yu_tables_1_5 21 (by decide +kernel) (by decide +kernel)
theorem u_1604 : Cond.code yJ1_equals_b5fdf cJ1_equals_b5fdf 3 (some .boolean) ∈ yU := yu_tables_1_7 108 (by decide +kernel) (by decide +kernel)
theorem u_1601 : Cond.classLink RJ0 10 RJ0 ∈ yU := yu_tables_1_7 105 (by decide +kernel) (by decide +kernel)
theorem u_1130 : Cond.fieldLink RJ0 38 "java/lang/String" "COMPACT_STRINGS" "Z" ∈ yU := yu_tables_1_5 114 (by decide +kernel) (by decide +kernel)
theorem u_1602 : Cond.methodLink RJ0 541 yJ1_equals_b5fdf ∈ yU := yu_tables_1_7 106 (by decide +kernel) (by decide +kernel)
theorem u_1603 : Cond.static yJ1_equals_b5fdf ∈ yU := yu_tables_1_7 107 (by decide +kernel) (by decide +kernel)
theorem u_1600 : Cond.code yJ0_equals_9ea2d cJ0_equals_9ea2d 3 (some .boolean) ∈ yU := yu_tables_1_7 104 (by decide +kernel) (by decide +kernel)
theorem dd_J7_copyOfRange_39247_0 : dk_R cJ7_copyOfRange_39247 [(0, .iload_n 1, 1), (1, .ifCond .ne 9, 3), (4, .iload_n 2, 1), (5, .aload_n 0, 1), (6, .arraylength, 1), (7, .if_icmp .eq 10, 3), (10, .aload_n 0, 1), (11, .iload_n 1, 1), (12, .iload_n 2, 1), (13, .invokestatic 339, 3), (16, .areturn, 1), (17, .aload_n 0, 1), (18, .invokevirtual 310, 3), (21, .checkcast 311, 3), (24, .areturn, 1)] := dk_use _ _ (by decide +kernel)
def fJ7_copyOfRange_39247 (af : Nat → Int32) (an : Nat) (i2 : Int32) : Option ((Nat → Int32) × Nat) := (if i2 = (nI an) then none else ((fJ7_copyOfRangeByte_39247 af an 0 i2).bind fun x_3 => some (x_3.1, x_3.2)))
abbrev hJ7_copyOfRange_39247 : Cond := .code yJ7_copyOfRange_39247 cJ7_copyOfRange_39247 3 (some (.array .byte))
theorem mJ7_copyOfRange_39247 : yM yJ7_copyOfRange_39247 hJ7_copyOfRange_39247 3 := ⟨u_1063, u_80, by decide +kernel, by decide +kernel, by decide +kernel⟩
set_option maxHeartbeats 4000000 in
set_option maxRecDepth 100000 in
theorem kJ7_copyOfRange_39247 (l : Launch) (D : va_G) (cy : Nat → ClassId) (a : Nat) (af : Nat → Int32) (an : Nat) (i2 : Int32) {res : (Nat → Int32) × Nat} (hR : fJ7_copyOfRange_39247 af an i2 = some res) : YM l D cy yJ7_copyOfRange_39247 hJ7_copyOfRange_39247 3 1 16 [.ref a, .int 0, .int i2] [[(a, .inl (cy 0, an, .inl af))]] (fun v u => ∃ r : Nat, v = some (.ref r) ∧ u = [[(a, .inl (cy 0, an, .inl af))], [(r, .inl (cy 0, res.2, .inl res.1))]]) := by
  unfold fJ7_copyOfRange_39247 at hR
  refine YM.ofA (cc := cJ7_copyOfRange_39247) (maxL := 3) (ret := (some (.array .byte))) (by decide +kernel) rfl (Nat.le_of_ble_eq_true rfl) [(0, .ref a), (1, .int 0), (2, .int i2)] rfl (.array .byte) rfl (Or.inr ⟨_, rfl⟩) (fun p e s m args below meth c A H0 Q C hnm ret => ?_)
  refine xr_iload_n (n := 1) (j := 1) C dd_J7_copyOfRange_39247_0.1 rfl rfl ?_
  refine xr_if_ne (tgt := 10) (n := 4) C dd_J7_copyOfRange_39247_0.2.1 rfl rfl (fun c_1 => absurd c_1 (by decide)) (fun _ => ?_)
  refine xr_iload_n (n := 5) (j := 2) C dd_J7_copyOfRange_39247_0.2.2.1 rfl rfl ?_
  refine xr_aload_n (n := 6) (j := 0) C dd_J7_copyOfRange_39247_0.2.2.2.1 rfl rfl ?_
  refine xr_alen (n := 7) C 0 0 rfl 0 rfl rfl dd_J7_copyOfRange_39247_0.2.2.2.2.1 rfl ?_
  refine xr_icmp_eq (tgt := 17) (n := 10) C dd_J7_copyOfRange_39247_0.2.2.2.2.2.1 rfl rfl (fun c_2 => ?_) (fun c_2 => ?_)
  · replace hR := yf_t c_2 hR
    cases hR
  · replace hR := yf_f c_2 hR
    refine xr_aload_n (n := 11) (j := 0) C dd_J7_copyOfRange_39247_0.2.2.2.2.2.2.1 rfl rfl ?_
    refine xr_iload_n (n := 12) (j := 1) C dd_J7_copyOfRange_39247_0.2.2.2.2.2.2.2.1 rfl rfl ?_
    refine xr_iload_n (n := 13) (j := 2) C dd_J7_copyOfRange_39247_0.2.2.2.2.2.2.2.2.1 rfl rfl ?_
    obtain ⟨x_3, hx_3, hR⟩ := yf_b hR
    refine xr_callS (n := 16) (As := [.ref a, .int 0, .int i2]) (rest := []) C (kJ7_copyOfRangeByte_39247 l D cy (a := a) (af := af) (an := an) (i1 := 0) (i2 := i2) hx_3) mJ7_copyOfRangeByte_39247 u_1064 u_1065 1 [0] [] rfl (by decide +kernel) rfl rfl rfl rfl (Nat.le_of_ble_eq_true rfl) (Nat.le_of_ble_eq_true rfl) (Nat.le_of_ble_eq_true rfl) (Nat.le_of_ble_eq_true rfl) (Nat.le_of_ble_eq_true rfl) dd_J7_copyOfRange_39247_0.2.2.2.2.2.2.2.2.2.1 rfl (fun v_4 u_5 hp_6 => ?_)
    obtain ⟨q_7, rfl, rfl⟩ := hp_6
    refine xr_perm C 2 [0, 1] [] [[(a, .inl (cy 0, an, .inl af))], [(q_7, .inl (cy 0, x_3.2, .inl x_3.1))]] rfl (by decide +kernel) rfl ?_
    refine xr_st (st' := [.ref q_7]) rfl ?_
    obtain rfl := Option.some.inj hR
    exact ret q_7 ⟨q_7, rfl, rfl⟩ (Nat.le_of_ble_eq_true rfl) (Nat.le_of_ble_eq_true rfl) dd_J7_copyOfRange_39247_0.2.2.2.2.2.2.2.2.2.2.1
theorem dd_J0_init_db425_0 : dk_R cJ0_init_db425 [(0, .aload_n 0, 1), (1, .invokespecial 1, 3), (4, .aload_n 1, 1), (5, .invokevirtual 552, 3), (8, .astore_n 3, 1), (9, .aload_n 1, 1), (10, .invokevirtual 549, 3), (13, .istore 4, 2), (15, .aload_n 1, 1), (16, .invokevirtual 1047, 3), (19, .ifCond .eq 22, 3), (22, .aload_n 0, 1), (23, .iconst 0, 1), (24, .putfield 15, 3), (27, .aload_n 0, 1), (28, .aload_n 3, 1)] := dk_use _ _ (by decide +kernel)
theorem dd_J0_init_db425_1 : dk_R cJ0_init_db425 [(29, .iconst 0, 1), (30, .iload 4, 2), (32, .invokestatic 54, 3), (35, .putfield 9, 3), (38, .goto 59, 3), (41, .getstatic 38, 3), (44, .ifCond .eq 35, 3), (47, .aload_n 1, 1), (48, .getfield 1048, 3), (51, .ifCond .eq 28, 3), (54, .aload_n 0, 1), (55, .aload_n 3, 1), (56, .iconst 0, 1), (57, .iload 4, 2), (59, .invokestatic 1051, 3), (62, .putfield 9, 3)] := dk_use _ _ (by decide +kernel)
theorem dd_J0_init_db425_2 : dk_R cJ0_init_db425 [(65, .aload_n 0, 1), (66, .aload_n 0, 1), (67, .getfield 9, 3), (70, .iload 4, 2), (72, .invokestatic 47, 3), (75, .putfield 15, 3), (78, .return_, 1), (79, .aload_n 0, 1), (80, .iconst 1, 1), (81, .putfield 15, 3), (84, .aload_n 0, 1), (85, .aload_n 3, 1), (86, .iconst 0, 1), (87, .iload 4, 2), (89, .iconst 1, 1), (90, .ishl, 1)] := dk_use _ _ (by decide +kernel)
theorem dd_J0_init_db425_3 : dk_R cJ0_init_db425 [(91, .invokestatic 54, 3), (94, .putfield 9, 3), (97, .return_, 1)] := dk_use _ _ (by decide +kernel)
def fJ0_init_db425 (hc : Int32) (hf : Nat → Int32) (hn : Nat) : Option ((Nat → Int32) × Nat) := ((fJ5_getValue_6d5f1).bind fun x_1 => ((fJ4_length_8abf5 hc).bind fun x_5 => ((fJ5_isLatin1_aae02).bind fun x_9 => ((fJ7_copyOfRange_39247 hf hn x_5).bind fun x_14 => some (x_14.1, x_14.2)))))
abbrev hJ0_init_db425 : Cond := .code yJ0_init_db425 cJ0_init_db425 5 none
theorem mJ0_init_db425 : yM yJ0_init_db425 hJ0_init_db425 2 := ⟨u_1045, u_77, by decide +kernel, by decide +kernel, by decide +kernel⟩
set_option maxHeartbeats 4000000 in
set_option maxRecDepth 100000 in
theorem kJ0_init_db425 (l : Launch) (D : va_G) (cy : Nat → ClassId) (o : Nat) (h : Nat) (hv : Nat) (hc : Int32) (hf : Nat → Int32) (hn : Nat) {res : (Nat → Int32) × Nat} (hR : fJ0_init_db425 hc hf hn = some res) : YM l D cy yJ0_init_db425 hJ0_init_db425 4 1 16 [.ref o, .ref h, .null] [[(o, .inr (0, [.null, .int 0, .int 0, .int 0]))], [(h, .inr (1, [.ref hv, .int 0, .int 0, .int hc]))], [(hv, .inl (cy 0, hn, .inl hf))]] (fun v u => ∃ ov : Nat, v = none ∧ u = [[(o, .inr (0, [.ref ov, .int 0, .int 0, .int 0]))], [(ov, .inl (cy 0, res.2, .inl res.1))], [(h, .inr (1, [.ref hv, .int 0, .int 0, .int hc]))], [(hv, .inl (cy 0, hn, .inl hf))]]) := by
  unfold fJ0_init_db425 at hR
  refine YM.ofV (cc := cJ0_init_db425) (maxL := 5) (ret := none) (by decide +kernel) rfl (Nat.le_of_ble_eq_true rfl) [(0, .ref o), (1, .ref h), (2, .null)] rfl rfl (fun p e s m args below meth c A H0 Q C hnm ret => ?_)
  refine xr_aload_n (n := 1) (j := 0) C dd_J0_init_db425_0.1 rfl rfl ?_
  refine xr_objInit (n := 4) C u_1046 u_90 u_91 (Nat.le_of_ble_eq_true rfl) (Nat.le_of_ble_eq_true rfl) (Nat.le_of_ble_eq_true rfl) dd_J0_init_db425_0.2.1 rfl ?_
  refine xr_aload_n (n := 5) (j := 1) C dd_J0_init_db425_0.2.2.1 rfl rfl ?_
  obtain ⟨x_1, hx_1, hR⟩ := yf_b hR
  refine xr_callUp (n := 8) (As := []) (rest := []) C (kJ5_getValue_6d5f1 l D cy (h := h) (hv := hv) (hc := hc) hx_1) mJ5_getValue_6d5f1 u_1047 u_1048 u_1049 1 rfl rfl (C.2.2.2.2.1 _ u_1050) 3 [1] [0, 2] rfl (by decide +kernel) rfl rfl rfl rfl (Nat.le_of_ble_eq_true rfl) (Nat.le_of_ble_eq_true rfl) (Nat.le_of_ble_eq_true rfl) (Nat.le_of_ble_eq_true rfl) (Nat.le_of_ble_eq_true rfl) dd_J0_init_db425_0.2.2.2.1 rfl (fun _ _ hp => hp.2) (fun v_2 hp_4 => ?_)
  obtain ⟨rfl, -⟩ := hp_4
  refine xr_st (st' := [.ref hv]) rfl ?_
  refine xr_astore_n (n := 9) C [(3, .ref hv), (0, .ref o), (1, .ref h), (2, .null)] dd_J0_init_db425_0.2.2.2.2.1 (by decide) rfl rfl ?_
  refine xr_aload_n (n := 10) (j := 2) C dd_J0_init_db425_0.2.2.2.2.2.1 rfl rfl ?_
  obtain ⟨x_5, hx_5, hR⟩ := yf_b hR
  refine xr_callOp (n := 13) (As := []) (rest := []) C (kJ4_length_8abf5 l D cy (h := h) (hv := hv) (hc := hc) hx_5) mJ4_length_8abf5 u_1052 u_1056 u_1054 u_1053 u_1059 (by decide +kernel) 1 rfl rfl u_1055 3 [1] [0, 2] rfl (by decide +kernel) rfl rfl rfl rfl (Nat.le_of_ble_eq_true rfl) (Nat.le_of_ble_eq_true rfl) (Nat.le_of_ble_eq_true rfl) (Nat.le_of_ble_eq_true rfl) (Nat.le_of_ble_eq_true rfl) dd_J0_init_db425_0.2.2.2.2.2.2.1 rfl (fun _ _ hp => hp.2) (fun v_6 hp_8 => ?_)
  obtain ⟨rfl, -⟩ := hp_8
  refine xr_st (st' := [.int x_5]) rfl ?_
  refine xr_istore (n := 15) C [(4, .int x_5), (3, .ref hv), (0, .ref o), (1, .ref h), (2, .null)] dd_J0_init_db425_0.2.2.2.2.2.2.2.1 (by decide) rfl rfl ?_
  refine xr_aload_n (n := 16) (j := 3) C dd_J0_init_db425_0.2.2.2.2.2.2.2.2.1 rfl rfl ?_
  obtain ⟨x_9, hx_9, hR⟩ := yf_b hR
  obtain rfl := Option.some.inj (show some ((1) : Int32) = some x_9 from hx_9)
  refine xr_callUp (n := 19) (As := []) (rest := []) C (kJ5_isLatin1_aae02 l D cy (h := h) (hv := hv) (hc := hc) hx_9) mJ5_isLatin1_aae02 u_1060 u_982 u_983 1 rfl rfl (C.2.2.2.2.1 _ u_984) 3 [1] [0, 2] rfl (by decide +kernel) rfl rfl rfl rfl (Nat.le_of_ble_eq_true rfl) (Nat.le_of_ble_eq_true rfl) (Nat.le_of_ble_eq_true rfl) (Nat.le_of_ble_eq_true rfl) (Nat.le_of_ble_eq_true rfl) dd_J0_init_db425_0.2.2.2.2.2.2.2.2.2.1 rfl (fun _ _ hp => hp.2) (fun v_10 hp_12 => ?_)
  obtain ⟨rfl, -⟩ := hp_12
  refine xr_st (st' := [.int 1]) rfl ?_
  refine xr_if_eq (tgt := 41) (n := 22) C dd_J0_init_db425_0.2.2.2.2.2.2.2.2.2.2.1 rfl rfl (fun c_13 => absurd c_13 (by decide)) (fun _ => ?_)
  refine xr_aload_n (n := 23) (j := 2) C dd_J0_init_db425_0.2.2.2.2.2.2.2.2.2.2.2.1 rfl rfl ?_
  refine xr_iconst (n := 24) (v := 0) C dd_J0_init_db425_0.2.2.2.2.2.2.2.2.2.2.2.2.1 rfl rfl ?_
  refine xr_putF (n := 27) C 0 rfl rfl 1 (by decide) in_J0 tyJ0 tyJ0_ok nmJ0 u_1162 rfl rfl hnm rfl rfl rfl (Nat.le_of_ble_eq_true rfl) [[(o, .inr (0, [.null, .int 0, .int 0, .int 0]))], [(h, .inr (1, [.ref hv, .int 0, .int 0, .int hc]))], [(hv, .inl (cy 0, hn, .inl hf))]] rfl rfl dd_J0_init_db425_0.2.2.2.2.2.2.2.2.2.2.2.2.2.1 ?_
  refine xr_aload_n (n := 28) (j := 2) C dd_J0_init_db425_0.2.2.2.2.2.2.2.2.2.2.2.2.2.2.1 rfl rfl ?_
  refine xr_aload_n (n := 29) (j := 1) C dd_J0_init_db425_0.2.2.2.2.2.2.2.2.2.2.2.2.2.2.2.1 rfl rfl ?_
  refine xr_iconst (n := 30) (v := 0) C dd_J0_init_db425_1.1 rfl rfl ?_
  refine xr_iload (n := 32) (j := 0) C dd_J0_init_db425_1.2.1 rfl rfl ?_
  obtain ⟨x_14, hx_14, hR⟩ := yf_b hR
  refine xr_callS (n := 35) (As := [.ref hv, .int 0, .int x_5]) (rest := [.ref o]) C (kJ7_copyOfRange_39247 l D cy (a := hv) (af := hf) (an := hn) (i2 := x_5) hx_14) mJ7_copyOfRange_39247 u_1061 u_1062 3 [2] [0, 1] rfl (by decide +kernel) rfl rfl rfl rfl (Nat.le_of_ble_eq_true rfl) (Nat.le_of_ble_eq_true rfl) (Nat.le_of_ble_eq_true rfl) (Nat.le_of_ble_eq_true rfl) (Nat.le_of_ble_eq_true rfl) dd_J0_init_db425_1.2.2.1 rfl (fun v_15 u_16 hp_17 => ?_)
  obtain ⟨q_18, rfl, rfl⟩ := hp_17
  refine xr_perm C 4 [2, 3, 0, 1] [] [[(o, .inr (0, [.null, .int 0, .int 0, .int 0]))], [(h, .inr (1, [.ref hv, .int 0, .int 0, .int hc]))], [(hv, .inl (cy 0, hn, .inl hf))], [(q_18, .inl (cy 0, x_14.2, .inl x_14.1))]] rfl (by decide +kernel) rfl ?_
  refine xr_st (st' := [.ref q_18, .ref o]) rfl ?_
  refine xr_putF (n := 38) C 0 rfl rfl 0 (by decide) in_J0 tyJ0 tyJ0_ok nmJ0 u_1161 rfl rfl hnm rfl rfl rfl (Nat.le_of_ble_eq_true rfl) [[(o, .inr (0, [.ref q_18, .int 0, .int 0, .int 0]))], [(h, .inr (1, [.ref hv, .int 0, .int 0, .int hc]))], [(hv, .inl (cy 0, hn, .inl hf))], [(q_18, .inl (cy 0, x_14.2, .inl x_14.1))]] rfl rfl dd_J0_init_db425_1.2.2.2.1 ?_
  refine xr_goto (tgt := 97) C dd_J0_init_db425_1.2.2.2.2.1 rfl ?_
  obtain rfl := Option.some.inj hR
  refine xr_perm C 4 [0, 3, 1, 2] [] [[(o, .inr (0, [.ref q_18, .int 0, .int 0, .int 0]))], [(q_18, .inl (cy 0, x_14.2, .inl x_14.1))], [(h, .inr (1, [.ref hv, .int 0, .int 0, .int hc]))], [(hv, .inl (cy 0, hn, .inl hf))]] rfl (by decide +kernel) rfl ?_
  exact ret ⟨q_18, rfl, rfl⟩ (Nat.le_of_ble_eq_true rfl) (Nat.le_of_ble_eq_true rfl) dd_J0_init_db425_3.2.2.1
theorem dd_J0_init_81219_0 : dk_R cJ0_init_81219 [(0, .aload_n 0, 1), (1, .aload_n 1, 1), (2, .aconst_null, 1), (3, .invokespecial 489, 3), (6, .return_, 1)] := dk_use _ _ (by decide +kernel)
def fJ0_init_81219 (hc : Int32) (hf : Nat → Int32) (hn : Nat) : Option ((Nat → Int32) × Nat) := ((fJ0_init_db425 hc hf hn).bind fun x_1 => some (x_1.1, x_1.2))
abbrev hJ0_init_81219 : Cond := .code yJ0_init_81219 cJ0_init_81219 2 none
theorem mJ0_init_81219 : yM yJ0_init_81219 hJ0_init_81219 1 := ⟨u_1042, u_77, by decide +kernel, by decide +kernel, by decide +kernel⟩
set_option maxHeartbeats 4000000 in
set_option maxRecDepth 100000 in
theorem kJ0_init_81219 (l : Launch) (D : va_G) (cy : Nat → ClassId) (o : Nat) (h : Nat) (hv : Nat) (hc : Int32) (hf : Nat → Int32) (hn : Nat) {res : (Nat → Int32) × Nat} (hR : fJ0_init_81219 hc hf hn = some res) : YM l D cy yJ0_init_81219 hJ0_init_81219 5 1 16 [.ref o, .ref h] [[(o, .inr (0, [.null, .int 0, .int 0, .int 0]))], [(h, .inr (1, [.ref hv, .int 0, .int 0, .int hc]))], [(hv, .inl (cy 0, hn, .inl hf))]] (fun v u => ∃ ov : Nat, v = none ∧ u = [[(o, .inr (0, [.ref ov, .int 0, .int 0, .int 0]))], [(ov, .inl (cy 0, res.2, .inl res.1))], [(h, .inr (1, [.ref hv, .int 0, .int 0, .int hc]))], [(hv, .inl (cy 0, hn, .inl hf))]]) := by
  unfold fJ0_init_81219 at hR
  refine YM.ofV (cc := cJ0_init_81219) (maxL := 2) (ret := none) (by decide +kernel) rfl (Nat.le_of_ble_eq_true rfl) [(0, .ref o), (1, .ref h)] rfl rfl (fun p e s m args below meth c A H0 Q C hnm ret => ?_)
  refine xr_aload_n (n := 1) (j := 0) C dd_J0_init_81219_0.1 rfl rfl ?_
  refine xr_aload_n (n := 2) (j := 1) C dd_J0_init_81219_0.2.1 rfl rfl ?_
  refine xr_null (n := 3) C dd_J0_init_81219_0.2.2.1 rfl ?_
  obtain ⟨x_1, hx_1, hR⟩ := yf_b hR
  refine xr_callI (n := 6) (As := [.ref h, .null]) (rest := []) C (kJ0_init_db425 l D cy (o := o) (h := h) (hv := hv) (hc := hc) (hf := hf) (hn := hn) hx_1) mJ0_init_db425 u_1043 u_1044 rfl 3 [0, 1, 2] [] rfl (by decide +kernel) rfl rfl rfl rfl (Nat.le_of_ble_eq_true rfl) (Nat.le_of_ble_eq_true rfl) (Nat.le_of_ble_eq_true rfl) (Nat.le_of_ble_eq_true rfl) (Nat.le_of_ble_eq_true rfl) dd_J0_init_81219_0.2.2.2.1 rfl (fun v_2 u_3 hp_4 => ?_)
  obtain ⟨q_5, rfl, rfl⟩ := hp_4
  refine xr_perm C 4 [0, 1, 2, 3] [] [[(o, .inr (0, [.ref q_5, .int 0, .int 0, .int 0]))], [(q_5, .inl (cy 0, x_1.2, .inl x_1.1))], [(h, .inr (1, [.ref hv, .int 0, .int 0, .int hc]))], [(hv, .inl (cy 0, hn, .inl hf))]] rfl (by decide +kernel) rfl ?_
  obtain rfl := Option.some.inj hR
  exact ret ⟨q_5, rfl, rfl⟩ (Nat.le_of_ble_eq_true rfl) (Nat.le_of_ble_eq_true rfl) dd_J0_init_81219_0.2.2.2.2.1
theorem dd_J4_toString_0e30d_0 : dk_R cJ4_toString_0e30d [(0, .new 18, 3), (3, .dup, 1), (4, .aload_n 0, 1), (5, .invokespecial 137, 3), (8, .areturn, 1)] := dk_use _ _ (by decide +kernel)
def fJ4_toString_0e30d (hc : Int32) (hf : Nat → Int32) (hn : Nat) : Option ((Nat → Int32) × Nat) := ((fJ0_init_81219 hc hf hn).bind fun x_2 => some (x_2.1, x_2.2))
abbrev hJ4_toString_0e30d : Cond := .code yJ4_toString_0e30d cJ4_toString_0e30d 1 (some (.object "java/lang/String"))
theorem mJ4_toString_0e30d : yM yJ4_toString_0e30d hJ4_toString_0e30d 0 := ⟨u_1037, u_76, by decide +kernel, by decide +kernel, by decide +kernel⟩
set_option maxHeartbeats 4000000 in
set_option maxRecDepth 100000 in
theorem kJ4_toString_0e30d (l : Launch) (D : va_G) (cy : Nat → ClassId) (h : Nat) (hv : Nat) (hc : Int32) (hf : Nat → Int32) (hn : Nat) {res : (Nat → Int32) × Nat} (hR : fJ4_toString_0e30d hc hf hn = some res) : YM l D cy yJ4_toString_0e30d hJ4_toString_0e30d 6 2 20 [.ref h] [[(h, .inr (1, [.ref hv, .int 0, .int 0, .int hc]))], [(hv, .inl (cy 0, hn, .inl hf))]] (fun v u => ∃ o : Nat, ∃ ov : Nat, v = some (.ref o) ∧ u = [[(h, .inr (1, [.ref hv, .int 0, .int 0, .int hc]))], [(hv, .inl (cy 0, hn, .inl hf))], [(o, .inr (0, [.ref ov, .int 0, .int 0, .int 0]))], [(ov, .inl (cy 0, res.2, .inl res.1))]]) := by
  unfold fJ4_toString_0e30d at hR
  refine YM.ofA (cc := cJ4_toString_0e30d) (maxL := 1) (ret := (some (.object "java/lang/String"))) (by decide +kernel) rfl (Nat.le_of_ble_eq_true rfl) [(0, .ref h)] rfl (.object "java/lang/String") rfl (Or.inl ⟨_, rfl⟩) (fun p e s m args below meth c A H0 Q C hnm ret => ?_)
  refine xr_new (n := 3) (ci := 0) C tyJ0 tyJ0_ok in_J0 u_1038 u_1039 u_77 rfl [.null, .int 0, .int 0, .int 0] (by decide) (Nat.le_of_ble_eq_true rfl) (Nat.le_of_ble_eq_true rfl) dd_J4_toString_0e30d_0.1 rfl (fun q_1 => ?_)
  refine xr_eq (bs' := [[(h, .inr (1, [.ref hv, .int 0, .int 0, .int hc]))], [(hv, .inl (cy 0, hn, .inl hf))], [(q_1, .inr (0, [.null, .int 0, .int 0, .int 0]))]]) rfl ?_
  refine xr_dup (n := 4) C dd_J4_toString_0e30d_0.2.1 rfl rfl ?_
  refine xr_aload_n (n := 5) (j := 0) C dd_J4_toString_0e30d_0.2.2.1 rfl rfl ?_
  obtain ⟨x_2, hx_2, hR⟩ := yf_b hR
  refine xr_callI (n := 8) (As := [.ref h]) (rest := [.ref q_1]) C (kJ0_init_81219 l D cy (o := q_1) (h := h) (hv := hv) (hc := hc) (hf := hf) (hn := hn) hx_2) mJ0_init_81219 u_1040 u_1041 rfl 3 [2, 0, 1] [] rfl (by decide +kernel) rfl rfl rfl rfl (Nat.le_of_ble_eq_true rfl) (Nat.le_of_ble_eq_true rfl) (Nat.le_of_ble_eq_true rfl) (Nat.le_of_ble_eq_true rfl) (Nat.le_of_ble_eq_true rfl) dd_J4_toString_0e30d_0.2.2.2.1 rfl (fun v_3 u_4 hp_5 => ?_)
  obtain ⟨q_6, rfl, rfl⟩ := hp_5
  refine xr_perm C 4 [1, 2, 0, 3] [] [[(q_6, .inl (cy 0, x_2.2, .inl x_2.1))], [(h, .inr (1, [.ref hv, .int 0, .int 0, .int hc]))], [(q_1, .inr (0, [.ref q_6, .int 0, .int 0, .int 0]))], [(hv, .inl (cy 0, hn, .inl hf))]] rfl (by decide +kernel) rfl ?_
  obtain rfl := Option.some.inj hR
  refine xr_perm C 4 [1, 3, 2, 0] [] [[(h, .inr (1, [.ref hv, .int 0, .int 0, .int hc]))], [(hv, .inl (cy 0, hn, .inl hf))], [(q_1, .inr (0, [.ref q_6, .int 0, .int 0, .int 0]))], [(q_6, .inl (cy 0, x_2.2, .inl x_2.1))]] rfl (by decide +kernel) rfl ?_
  exact ret q_1 ⟨q_1, q_6, rfl, rfl⟩ (Nat.le_of_ble_eq_true rfl) (Nat.le_of_ble_eq_true rfl) dd_J4_toString_0e30d_0.2.2.2.2.1
theorem dd_J1_equals_b5fdf_0 : dk_R cJ1_equals_b5fdf [(0, .aload_n 0, 1), (1, .arraylength, 1), (2, .aload_n 1, 1), (3, .arraylength, 1), (4, .if_icmp .ne 30, 3), (7, .iconst 0, 1), (8, .istore_n 2, 1), (9, .iload_n 2, 1), (10, .aload_n 0, 1), (11, .arraylength, 1), (12, .if_icmp .ge 20, 3), (15, .aload_n 0, 1), (16, .iload_n 2, 1), (17, .baload, 1), (18, .aload_n 1, 1), (19, .iload_n 2, 1)] := dk_use _ _ (by decide +kernel)
theorem dd_J1_equals_b5fdf_1 : dk_R cJ1_equals_b5fdf [(20, .baload, 1), (21, .if_icmp .eq 5, 3), (24, .iconst 0, 1), (25, .ireturn, 1), (26, .iinc 2 1, 3), (29, .goto (-20), 3), (32, .iconst 1, 1), (33, .ireturn, 1), (34, .iconst 0, 1), (35, .ireturn, 1)] := dk_use _ _ (by decide +kernel)
def fJ1_equals_b5fdf (af : Nat → Int32) (an : Nat) (bf : Nat → Int32) (bn : Nat) : Option (Int32) := (if (nI an) = (nI bn) then ((wl (S := Int32) (B := (Int32) ⊕ Int32) (fun s_2 => (if (nI an) ≤ s_2 then some (.inr (.inl s_2)) else (if ¬ (s_2 < 0 ∨ an ≤ s_2.toNatClampNeg) then (if ¬ (s_2 < 0 ∨ bn ≤ s_2.toNatClampNeg) then (if (af s_2.toNatClampNeg) = (bf s_2.toNatClampNeg) then some (.inl (s_2 + 1)) else some (.inr (.inr 0))) else none) else none))) yFuel 0).bind fun b_2 => ybr b_2 (fun z_2 => some 1) (fun r => some r)) else some 0)
abbrev hJ1_equals_b5fdf : Cond := .code yJ1_equals_b5fdf cJ1_equals_b5fdf 3 (some .boolean)
theorem mJ1_equals_b5fdf : yM yJ1_equals_b5fdf hJ1_equals_b5fdf 2 := ⟨u_1604, u_82, by decide +kernel, by decide +kernel, by decide +kernel⟩
set_option maxHeartbeats 4000000 in
set_option maxRecDepth 100000 in
theorem kJ1_equals_b5fdf (l : Launch) (D : va_G) (cy : Nat → ClassId) (a : Nat) (af : Nat → Int32) (an : Nat) (b : Nat) (bf : Nat → Int32) (bn : Nat) {res : Int32} (hR : fJ1_equals_b5fdf af an bf bn = some res) : YM l D cy yJ1_equals_b5fdf hJ1_equals_b5fdf 1 0 0 [.ref a, .ref b] [[(a, .inl (cy 0, an, .inl af))], [(b, .inl (cy 0, bn, .inl bf))]] (fun v u => v = some (.int res) ∧ u = [[(a, .inl (cy 0, an, .inl af))], [(b, .inl (cy 0, bn, .inl bf))]]) := by
  unfold fJ1_equals_b5fdf at hR
  refine YM.ofZ (cc := cJ1_equals_b5fdf) (maxL := 3) (ret := (some .boolean)) (by decide +kernel) rfl (Nat.le_of_ble_eq_true rfl) [(0, .ref a), (1, .ref b)] rfl .boolean rfl (fun p e s m args below meth c A H0 Q C hnm ret => ?_)
  refine xr_aload_n (n := 1) (j := 0) C dd_J1_equals_b5fdf_0.1 rfl rfl ?_
  refine xr_alen (n := 2) C 0 0 rfl 0 rfl rfl dd_J1_equals_b5fdf_0.2.1 rfl ?_
  refine xr_aload_n (n := 3) (j := 1) C dd_J1_equals_b5fdf_0.2.2.1 rfl rfl ?_
  refine xr_alen (n := 4) C 1 0 rfl 0 rfl rfl dd_J1_equals_b5fdf_0.2.2.2.1 rfl ?_
  refine xr_icmp_ne (tgt := 34) (n := 7) C dd_J1_equals_b5fdf_0.2.2.2.2.1 rfl rfl (fun c_1 => ?_) (fun c_1 => ?_)
  · replace hR := yf_f c_1 hR
    refine xr_iconst (n := 35) (v := 0) C dd_J1_equals_b5fdf_1.2.2.2.2.2.2.2.2.1 rfl rfl ?_
    obtain rfl := Option.some.inj hR
    exact ret 0 (by decide) ⟨rfl, rfl⟩ (Nat.le_of_ble_eq_true rfl) (Nat.le_of_ble_eq_true rfl) dd_J1_equals_b5fdf_1.2.2.2.2.2.2.2.2.2.1
  · replace hR := yf_t c_1 hR
    refine xr_iconst (n := 8) (v := 0) C dd_J1_equals_b5fdf_0.2.2.2.2.2.1 rfl rfl ?_
    refine xr_istore_n (n := 9) C [(2, .int 0), (0, .ref a), (1, .ref b)] dd_J1_equals_b5fdf_0.2.2.2.2.2.2.1 (by decide) rfl rfl ?_
    refine xr_lv (lv' := [(0, .ref a), (1, .ref b), (2, .int 0)]) [1, 2, 0] rfl ?_
    obtain ⟨b_2, hb_2, hR⟩ := yf_b hR
    have K_2 : ∀ z_2, b_2 = .inl z_2 → X p l e (yR 1 0 0) s m args below meth c D A H0 3 Q [[(a, .inl (cy 0, an, .inl af))], [(b, .inl (cy 0, bn, .inl bf))]] 0 0 [] 32 [] := by
      intro z_2 e_2; subst e_2; replace hR := ybr_l hR
      refine xr_iconst (n := 33) (v := 1) C dd_J1_equals_b5fdf_1.2.2.2.2.2.2.1 rfl rfl ?_
      obtain rfl := Option.some.inj hR
      exact ret 1 (by decide) ⟨rfl, rfl⟩ (Nat.le_of_ble_eq_true rfl) (Nat.le_of_ble_eq_true rfl) dd_J1_equals_b5fdf_1.2.2.2.2.2.2.2.1
    refine y_loop (P := fun (s_2 : Int32) => X p l e (yR 1 0 0) s m args below meth c D A H0 3 Q [[(a, .inl (cy 0, an, .inl af))], [(b, .inl (cy 0, bn, .inl bf))]] 0 0 [(0, .ref a), (1, .ref b), (2, .int s_2)] 9 []) ?_ _ 0 hb_2
    intro s_2 o_2 ho_2 hk_2 hx_2
    refine xr_iload_n (n := 10) (j := 2) C dd_J1_equals_b5fdf_0.2.2.2.2.2.2.2.1 rfl rfl ?_
    refine xr_aload_n (n := 11) (j := 0) C dd_J1_equals_b5fdf_0.2.2.2.2.2.2.2.2.1 rfl rfl ?_
    refine xr_alen (n := 12) C 0 0 rfl 0 rfl rfl dd_J1_equals_b5fdf_0.2.2.2.2.2.2.2.2.2.1 rfl ?_
    refine xr_icmp_ge (tgt := 32) (n := 15) C dd_J1_equals_b5fdf_0.2.2.2.2.2.2.2.2.2.2.1 rfl rfl (fun c_3 => ?_) (fun c_3 => ?_)
    · replace ho_2 := yf_t c_3 ho_2
      refine xr_lv (lv' := []) [] rfl ?_
      have e_4 := hx_2 _ (Option.some.inj ho_2).symm
      exact K_2 s_2 e_4.symm
    · replace ho_2 := yf_f c_3 ho_2
      refine xr_aload_n (n := 16) (j := 0) C dd_J1_equals_b5fdf_0.2.2.2.2.2.2.2.2.2.2.2.1 rfl rfl ?_
      refine xr_iload_n (n := 17) (j := 2) C dd_J1_equals_b5fdf_0.2.2.2.2.2.2.2.2.2.2.2.2.1 rfl rfl ?_
      obtain ⟨g_5, ho_2⟩ := yf_g ho_2
      refine xr_bald (n := 18) C 0 0 rfl rfl g_5 dd_J1_equals_b5fdf_0.2.2.2.2.2.2.2.2.2.2.2.2.2.1 rfl ?_
      refine xr_aload_n (n := 19) (j := 1) C dd_J1_equals_b5fdf_0.2.2.2.2.2.2.2.2.2.2.2.2.2.2.1 rfl rfl ?_
      refine xr_iload_n (n := 20) (j := 2) C dd_J1_equals_b5fdf_0.2.2.2.2.2.2.2.2.2.2.2.2.2.2.2.1 rfl rfl ?_
      obtain ⟨g_6, ho_2⟩ := yf_g ho_2
      refine xr_bald (n := 21) C 1 0 rfl rfl g_6 dd_J1_equals_b5fdf_1.1 rfl ?_
      refine xr_icmp_eq (tgt := 26) (n := 24) C dd_J1_equals_b5fdf_1.2.1 rfl rfl (fun c_7 => ?_) (fun c_7 => ?_)
      · replace ho_2 := yf_t c_7 ho_2
        refine xr_iinc (j := 2) (v := s_2 + 1) (n := 29) C [(2, .int (s_2 + 1)), (0, .ref a), (1, .ref b)] dd_J1_equals_b5fdf_1.2.2.2.2.1 rfl rfl (by decide) rfl rfl ?_
        refine xr_goto (tgt := 9) C dd_J1_equals_b5fdf_1.2.2.2.2.2.1 rfl ?_
        refine xr_lv (lv' := [(0, .ref a), (1, .ref b), (2, .int (s_2 + 1))]) [1, 2, 0] rfl ?_
        exact hk_2 (s_2 + 1) (Option.some.inj ho_2).symm
      · replace ho_2 := yf_f c_7 ho_2
        refine xr_iconst (n := 25) (v := 0) C dd_J1_equals_b5fdf_1.2.2.1 rfl rfl ?_
        have e_8 := hx_2 _ (Option.some.inj ho_2).symm
        subst e_8
        replace hR := ybr_r hR
        obtain rfl := Option.some.inj hR
        exact ret 0 (by decide) ⟨rfl, rfl⟩ (Nat.le_of_ble_eq_true rfl) (Nat.le_of_ble_eq_true rfl) dd_J1_equals_b5fdf_1.2.2.2.1
theorem dJ0_equals_9ea2d_2 : decode cJ0_equals_9ea2d 2 = .ok (.if_acmp .ne 5, 3) := by decide +kernel
theorem dd_J0_equals_9ea2d_0 : dk_R cJ0_equals_9ea2d [(0, .aload_n 0, 1), (1, .aload_n 1, 1), (5, .iconst 1, 1), (6, .ireturn, 1), (7, .aload_n 1, 1), (8, .instanceof 10, 3), (11, .ifCond .eq 43, 3), (14, .aload_n 1, 1), (15, .checkcast 10, 3), (18, .astore_n 2, 1), (19, .getstatic 38, 3), (22, .ifCond .eq 14, 3), (25, .aload_n 0, 1), (26, .getfield 15, 3), (29, .aload_n 2, 1), (30, .getfield 15, 3)] := dk_use _ _ (by decide +kernel)
theorem dd_J0_equals_9ea2d_1 : dk_R cJ0_equals_9ea2d [(33, .if_icmp .ne 21, 3), (36, .aload_n 0, 1), (37, .getfield 9, 3), (40, .aload_n 2, 1), (41, .getfield 9, 3), (44, .invokestatic 541, 3), (47, .ifCond .eq 7, 3), (50, .iconst 1, 1), (51, .goto 4, 3), (54, .iconst 0, 1), (55, .ireturn, 1)] := dk_use _ _ (by decide +kernel)
def fJ0_equals_9ea2d (af : Nat → Int32) (an : Nat) (bf : Nat → Int32) (bn : Nat) : Option (Int32) := ((fJ1_equals_b5fdf af an bf bn).bind fun x_4 => (if x_4 = 0 then some 0 else some 1))
abbrev hJ0_equals_9ea2d : Cond := .code yJ0_equals_9ea2d cJ0_equals_9ea2d 3 (some .boolean)
theorem mJ0_equals_9ea2d : yM yJ0_equals_9ea2d hJ0_equals_9ea2d 1 := ⟨u_1600, u_77, by decide +kernel, by decide +kernel, by decide +kernel⟩
set_option maxHeartbeats 4000000 in
set_option maxRecDepth 100000 in
theorem kJ0_equals_9ea2d (l : Launch) (D : va_G) (cy : Nat → ClassId) (a : Nat) (av : Nat) (af : Nat → Int32) (an : Nat) (b : Nat) (bv : Nat) (bf : Nat → Int32) (bn : Nat) {res : Int32} (hR : fJ0_equals_9ea2d af an bf bn = some res) : YM l D cy yJ0_equals_9ea2d hJ0_equals_9ea2d 2 0 0 [.ref a, .ref b] [[(a, .inr (0, [.ref av, .int 0, .int 0, .int 0]))], [(av, .inl (cy 0, an, .inl af))], [(b, .inr (0, [.ref bv, .int 0, .int 0, .int 0]))], [(bv, .inl (cy 0, bn, .inl bf))]] (fun v u => v = some (.int res) ∧ u = [[(a, .inr (0, [.ref av, .int 0, .int 0, .int 0]))], [(av, .inl (cy 0, an, .inl af))], [(b, .inr (0, [.ref bv, .int 0, .int 0, .int 0]))], [(bv, .inl (cy 0, bn, .inl bf))]]) := by
  unfold fJ0_equals_9ea2d at hR
  refine YM.ofZ (cc := cJ0_equals_9ea2d) (maxL := 3) (ret := (some .boolean)) (by decide +kernel) rfl (Nat.le_of_ble_eq_true rfl) [(0, .ref a), (1, .ref b)] rfl .boolean rfl (fun p e s m args below meth c A H0 Q C hnm ret => ?_)
  refine xr_aload_n (n := 1) (j := 0) C dd_J0_equals_9ea2d_0.1 rfl rfl ?_
  refine xr_aload_n (n := 2) (j := 1) C dd_J0_equals_9ea2d_0.2.1 rfl rfl ?_
  refine xr_acmp_ne (tgt := 7) C 4 0 2 [1, 3] rfl rfl (by decide +kernel) dJ0_equals_9ea2d_2 rfl ?_
  refine xr_aload_n (n := 8) (j := 1) C dd_J0_equals_9ea2d_0.2.2.2.2.1 rfl rfl ?_
  refine xr_inst (n := 11) C u_1601 2 rfl rfl dd_J0_equals_9ea2d_0.2.2.2.2.2.1 rfl ?_
  refine xr_if_eq (tgt := 54) (n := 14) C dd_J0_equals_9ea2d_0.2.2.2.2.2.2.1 rfl rfl (fun c_1 => absurd c_1 (by decide)) (fun _ => ?_)
  refine xr_aload_n (n := 15) (j := 1) C dd_J0_equals_9ea2d_0.2.2.2.2.2.2.2.1 rfl rfl ?_
  refine xr_castO (n := 18) C u_1601 2 rfl rfl dd_J0_equals_9ea2d_0.2.2.2.2.2.2.2.2.1 rfl ?_
  refine xr_astore_n (n := 19) C [(2, .ref b), (0, .ref a), (1, .ref b)] dd_J0_equals_9ea2d_0.2.2.2.2.2.2.2.2.2.1 (by decide) rfl rfl ?_
  refine xr_compact (n := 22) C u_1130 dd_J0_equals_9ea2d_0.2.2.2.2.2.2.2.2.2.2.1 rfl ?_
  refine xr_if_eq (tgt := 36) (n := 25) C dd_J0_equals_9ea2d_0.2.2.2.2.2.2.2.2.2.2.2.1 rfl rfl (fun c_2 => absurd c_2 (by decide)) (fun _ => ?_)
  refine xr_aload_n (n := 26) (j := 1) C dd_J0_equals_9ea2d_0.2.2.2.2.2.2.2.2.2.2.2.2.1 rfl rfl ?_
  refine xr_get (n := 29) C 0 rfl rfl 1 (by decide) in_J0 u_1162 rfl (v := .int 0) rfl dd_J0_equals_9ea2d_0.2.2.2.2.2.2.2.2.2.2.2.2.2.1 rfl ?_
  refine xr_aload_n (n := 30) (j := 0) C dd_J0_equals_9ea2d_0.2.2.2.2.2.2.2.2.2.2.2.2.2.2.1 rfl rfl ?_
  refine xr_get (n := 33) C 2 rfl rfl 1 (by decide) in_J0 u_1162 rfl (v := .int 0) rfl dd_J0_equals_9ea2d_0.2.2.2.2.2.2.2.2.2.2.2.2.2.2.2.1 rfl ?_
  refine xr_icmp_ne (tgt := 54) (n := 36) C dd_J0_equals_9ea2d_1.1 rfl rfl (fun c_3 => absurd c_3 (by decide)) (fun _ => ?_)
  refine xr_aload_n (n := 37) (j := 1) C dd_J0_equals_9ea2d_1.2.1 rfl rfl ?_
  refine xr_get (n := 40) C 0 rfl rfl 0 (by decide) in_J0 u_1161 rfl (v := .ref av) rfl dd_J0_equals_9ea2d_1.2.2.1 rfl ?_
  refine xr_aload_n (n := 41) (j := 0) C dd_J0_equals_9ea2d_1.2.2.2.1 rfl rfl ?_
  refine xr_get (n := 44) C 2 rfl rfl 0 (by decide) in_J0 u_1161 rfl (v := .ref bv) rfl dd_J0_equals_9ea2d_1.2.2.2.2.1 rfl ?_
  obtain ⟨x_4, hx_4, hR⟩ := yf_b hR
  refine xr_callSp (n := 47) (As := [.ref av, .ref bv]) (rest := []) C (kJ1_equals_b5fdf l D cy (a := av) (af := af) (an := an) (b := bv) (bf := bf) (bn := bn) hx_4) mJ1_equals_b5fdf u_1602 u_1603 4 [1, 3] [0, 2] rfl (by decide +kernel) rfl rfl rfl rfl (Nat.le_of_ble_eq_true rfl) (Nat.le_of_ble_eq_true rfl) (Nat.le_of_ble_eq_true rfl) (Nat.le_of_ble_eq_true rfl) (Nat.le_of_ble_eq_true rfl) dd_J0_equals_9ea2d_1.2.2.2.2.2.1 rfl (fun _ _ hp => hp.2) (fun v_5 hp_7 => ?_)
  obtain ⟨rfl, -⟩ := hp_7
  refine xr_st (st' := [.int x_4]) rfl ?_
  refine xr_if_eq (tgt := 54) (n := 50) C dd_J0_equals_9ea2d_1.2.2.2.2.2.2.1 rfl rfl (fun c_8 => ?_) (fun c_8 => ?_)
  · replace hR := yf_t c_8 hR
    refine xr_iconst (n := 55) (v := 0) C dd_J0_equals_9ea2d_1.2.2.2.2.2.2.2.2.2.1 rfl rfl ?_
    obtain rfl := Option.some.inj hR
    exact ret 0 (by decide) ⟨rfl, rfl⟩ (Nat.le_of_ble_eq_true rfl) (Nat.le_of_ble_eq_true rfl) dd_J0_equals_9ea2d_1.2.2.2.2.2.2.2.2.2.2.1
  · replace hR := yf_f c_8 hR
    refine xr_iconst (n := 51) (v := 1) C dd_J0_equals_9ea2d_1.2.2.2.2.2.2.2.1 rfl rfl ?_
    refine xr_goto (tgt := 55) C dd_J0_equals_9ea2d_1.2.2.2.2.2.2.2.2.1 rfl ?_
    obtain rfl := Option.some.inj hR
    exact ret 1 (by decide) ⟨rfl, rfl⟩ (Nat.le_of_ble_eq_true rfl) (Nat.le_of_ble_eq_true rfl) dd_J0_equals_9ea2d_1.2.2.2.2.2.2.2.2.2.2.1
