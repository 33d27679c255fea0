theorem u_1064 : Cond.methodLink RJ7 339 yJ7_copyOfRangeByte_39247 ∈ yU := yu_tables_1_5 48 (by decide +kernel) (by decide +kernel)
theorem u_1065 : Cond.static yJ7_copyOfRangeByte_39247 ∈ yU := yu_tables_1_5 49 (by decide +kernel) (by decide +kernel)
theorem u_1063 : Cond.code yJ7_copyOfRange_39247 cJ7_copyOfRange_39247 3 (some (.array .byte)) ∈ yU := yu_tables_1_5 47 (by decide +kernel) (by decide +kernel)
theorem u_1046 : Cond.methodLink RJ0 1 objectInit ∈ yU := yu_tables_1_5 30 (by decide +kernel) (by decide +kernel)
theorem u_1047 : Cond.methodLink RJ0 552 yJ5_getValue_6d5f1 ∈ yU := yu_tables_1_5 31 (by decide +kernel) (by decide +kernel)
theorem u_1048 : Cond.instanceMethod yJ5_getValue_6d5f1 ∈ yU := yu_tables_1_5 32 (by decide +kernel) (by decide +kernel)
theorem u_1049 : Cond.sameMethod RJ5 RJ5 "getValue" "()[B" ∈ yU := yu_tables_1_5 33 (by decide +kernel) (by decide +kernel)
theorem u_1050 : Cond.selects RJ4 yJ5_getValue_6d5f1 yJ5_getValue_6d5f1 ∈ yU := yu_tables_1_5 34 (by decide +kernel) (by decide +kernel)
theorem u_1052 : Cond.methodLink RJ0 549 yJ5_length_8abf5 ∈ yU := yu_tables_1_5 36 (by decide +kernel) (by decide +kernel)
theorem u_1056 : Cond.instanceMethod yJ4_length_8abf5 ∈ yU := yu_tables_1_5 40 (by decide +kernel) (by decide +kernel)
theorem u_1055 : Cond.selects RJ4 yJ5_length_8abf5 yJ4_length_8abf5 ∈ yU := yu_tables_1_5 39 (by decide +kernel) (by decide +kernel)
theorem u_1060 : Cond.methodLink RJ0 1047 yJ5_isLatin1_aae02 ∈ yU := yu_tables_1_5 44 (by decide +kernel) (by decide +kernel)
theorem u_1162 : Cond.fieldLink RJ0 15 "java/lang/String" "code\x72" "B" ∈ yU := yu_tables_1_5 146 (by decide +kernel) (by decide +kernel)
theorem u_1061 : Cond.methodLink RJ0 54 yJ7_copyOfRange_39247 ∈ yU := yu_tables_1_5 45 (by decide +kernel) (by decide +kernel)
theorem u_1062 : Cond.static yJ7_copyOfRange_39247 ∈ yU := yu_tables_1_5 46 (by decide +kernel) (by decide +kernel)
theorem u_1161 : Cond.fieldLink RJ0 9 "java/lang/String" "value" "[B" ∈ yU := yu_tables_1_5 145 (by decide +kernel) (by decide +kernel)
theorem u_1045 : Cond.code yJ0_init_db425 cJ0_init_db425 5 none ∈ yU := yu_tables_1_5 29 (by decide +kernel) (by decide +kernel)
theorem u_77 : Cond.initialized RJ0 ∈ yU := yu_tables_1_1 21 (by decide +kernel) (by decide +kernel)
theorem u_1043 : Cond.methodLink RJ0 489 yJ0_init_db425 ∈ yU := yu_tables_1_5 27 (by decide +kernel) (by decide +kernel)
theorem u_1044 : Cond.instanceMethod yJ0_init_db425 ∈ yU := yu_tables_1_5 28 (by decide +kernel) (by decide +kernel)
theorem u_1042 : Cond.code yJ0_init_81219 cJ0_init_81219 2 none ∈ yU := yu_tables_1_5 26 (by decide +kernel) (by decide +kernel)
theorem u_1038 : Cond.classLink RJ4 18 RJ0 ∈ yU := yu_tables_1_5 22 (by decide +kernel) (by decide +kernel)
theorem u_1039 : Cond.instantiable RJ0 4 ∈ yU := yu_tables_1_5 23 (by decide +kernel) (by decide +kernel)
theorem u_1040 : Cond.methodLink RJ4 137 yJ0_init_81219 ∈ yU := yu_tables_1_5 24 (by decide +kernel) (by decide +kernel)
theorem u_1041 : Cond.instanceMethod yJ0_init_81219 ∈ yU := yu_tables_1_5 25 (by decide +kernel) (by decide +kernel)
theorem u_1037 : Cond.code yJ4_toString_0e30d cJ4_toString_0e30d 1 (some (.object "java/lang/String")) ∈ yU := yu_tables_1_5 21 (by decide +kernel) (by decide +kernel)
theorem u_907 : Cond.classLink RX6 214 RJ4 ∈ yU := yu_tables_1_4 131 (by decide +kernel) (by decide +kernel)
theorem u_908 : Cond.instantiable RJ4 4 ∈ yU := yu_tables_1_4 132 (by decide +kernel) (by decide +kernel)
theorem u_909 : Cond.methodLink RX6 216 yJ4_init_da8c8 ∈ yU := yu_tables_1_4 133 (by decide +kernel) (by decide +kernel)
theorem u_910 : Cond.instanceMethod yJ4_init_da8c8 ∈ yU := yu_tables_1_4 134 (by decide +kernel) (by decide +kernel)
theorem u_938 : Cond.methodLink RX6 217 yX6_signOf ∈ yU := yu_tables_1_4 162 (by decide +kernel) (by decide +kernel)
theorem u_940 : Cond.instanceMethod yX6_signOf ∈ yU := yu_tables_1_4 164 (by decide +kernel) (by decide +kernel)
theorem u_27 : Cond.selects RX6 yX6_signOf yX6_signOf ∈ yU := yu 27 (by decide +kernel) (by decide +kernel)
theorem u_943 : Cond.methodLink RX6 221 yJ4_append_cf468 ∈ yU := yu_tables_1_4 167 (by decide +kernel) (by decide +kernel)
theorem u_944 : Cond.instanceMethod yJ4_append_cf468 ∈ yU := yu_tables_1_4 168 (by decide +kernel) (by decide +kernel)
theorem u_945 : Cond.selects RJ4 yJ4_append_cf468 yJ4_append_cf468 ∈ yU := yu_tables_1_4 169 (by decide +kernel) (by decide +kernel)
theorem u_1034 : Cond.methodLink RX6 225 yJ4_toString_0e30d ∈ yU := yu_tables_1_5 18 (by decide +kernel) (by decide +kernel)
theorem u_1035 : Cond.instanceMethod yJ4_toString_0e30d ∈ yU := yu_tables_1_5 19 (by decide +kernel) (by decide +kernel)
theorem u_1036 : Cond.selects RJ4 yJ4_toString_0e30d yJ4_toString_0e30d ∈ yU := yu_tables_1_5 20 (by decide +kernel) (by decide +kernel)
theorem u_905 : Cond.code yX6_row cX6_row 4 (some (.object "java/lang/String")) ∈ yU := yu_tables_1_4 129 (by decide +kernel) (by decide +kernel)
theorem yt_X6_212 : yT RX6 "java/lang/IndexOutOfBoundsException" "the mesh has no such row" 69 212 73 := ⟨by decide +kernel, u_659, u_71, by decide +kernel, ytb_1⟩
theorem dd_J7_copyOfRange_39247_0 : dk_R cJ7_copyOfRange_39247 [(0, .iload_n 1, 1), (1, .ifCond .ne 9, 3), (4, .iload_n 2, 1), (5, .aload_n 0, 1), (6, .arraylength, 1), (7, .if_icmp .eq 10, 3), (10, .aload_n 0, 1), (11, .iload_n 1, 1), (12, .iload_n 2, 1), (13, .invokestatic 339, 3), (16, .areturn, 1), (17, .aload_n 0, 1), (18, .invokevirtual 310, 3), (21, .checkcast 311, 3), (24, .areturn, 1)] := dk_use _ _ (by decide +kernel)
def fJ7_copyOfRange_39247 (af : Nat → Int32) (an : Nat) (i2 : Int32) : Option ((Nat → Int32) × Nat) := (if i2 = (nI an) then none else ((fJ7_copyOfRangeByte_39247 af an 0 i2).bind fun x_3 => some (x_3.1, x_3.2)))
abbrev hJ7_copyOfRange_39247 : Cond := .code yJ7_copyOfRange_39247 cJ7_copyOfRange_39247 3 (some (.array .byte))
theorem mJ7_copyOfRange_39247 : yM yJ7_copyOfRange_39247 hJ7_copyOfRange_39247 3 := ⟨u_1063, u_80, by decide +kernel, by decide +kernel, by decide +kernel⟩
set_option maxHeartbeats 4000000 in
set_option maxRecDepth 100000 in
theorem kJ7_copyOfRange_39247 (l : Launch) (D : va_G) (cy : Nat → ClassId) (a : Nat) (af : Nat → Int32) (an : Nat) (i2 : Int32) {res : (Nat → Int32) × Nat} (hR : fJ7_copyOfRange_39247 af an i2 = some res) : YM l D cy yJ7_copyOfRange_39247 hJ7_copyOfRange_39247 3 1 16 [.ref a, .int 0, .int i2] [[(a, .inl (cy 0, an, .inl af))]] (fun v u => ∃ r : Nat, v = some (.ref r) ∧ u = [[(a, .inl (cy 0, an, .inl af))], [(r, .inl (cy 0, res.2, .inl res.1))]]) := by
  unfold fJ7_copyOfRange_39247 at hR
  refine YM.ofA (cc := cJ7_copyOfRange_39247) (maxL := 3) (ret := (some (.array .byte))) (by decide +kernel) rfl (Nat.le_of_ble_eq_true rfl) [(0, .ref a), (1, .int 0), (2, .int i2)] rfl (.array .byte) rfl (Or.inr ⟨_, rfl⟩) (fun p e s m args below meth c A H0 Q C hnm ret => ?_)
  refine xr_iload_n (n := 1) (j := 1) C dd_J7_copyOfRange_39247_0.1 rfl rfl ?_
  refine xr_if_ne (tgt := 10) (n := 4) C dd_J7_copyOfRange_39247_0.2.1 rfl rfl (fun c_1 => absurd c_1 (by decide)) (fun _ => ?_)
  refine xr_iload_n (n := 5) (j := 2) C dd_J7_copyOfRange_39247_0.2.2.1 rfl rfl ?_
  refine xr_aload_n (n := 6) (j := 0) C dd_J7_copyOfRange_39247_0.2.2.2.1 rfl rfl ?_
  refine xr_alen (n := 7) C 0 0 rfl 0 rfl rfl dd_J7_copyOfRange_39247_0.2.2.2.2.1 rfl ?_
  refine xr_icmp_eq (tgt := 17) (n := 10) C dd_J7_copyOfRange_39247_0.2.2.2.2.2.1 rfl rfl (fun c_2 => ?_) (fun c_2 => ?_)
  · replace hR := yf_t c_2 hR
    cases hR
  · replace hR := yf_f c_2 hR
    refine xr_aload_n (n := 11) (j := 0) C dd_J7_copyOfRange_39247_0.2.2.2.2.2.2.1 rfl rfl ?_
    refine xr_iload_n (n := 12) (j := 1) C dd_J7_copyOfRange_39247_0.2.2.2.2.2.2.2.1 rfl rfl ?_
    refine xr_iload_n (n := 13) (j := 2) C dd_J7_copyOfRange_39247_0.2.2.2.2.2.2.2.2.1 rfl rfl ?_
    obtain ⟨x_3, hx_3, hR⟩ := yf_b hR
    refine xr_callS (n := 16) (As := [.ref a, .int 0, .int i2]) (rest := []) C (kJ7_copyOfRangeByte_39247 l D cy (a := a) (af := af) (an := an) (i1 := 0) (i2 := i2) hx_3) mJ7_copyOfRangeByte_39247 u_1064 u_1065 1 [0] [] rfl (by decide +kernel) rfl rfl rfl rfl (Nat.le_of_ble_eq_true rfl) (Nat.le_of_ble_eq_true rfl) (Nat.le_of_ble_eq_true rfl) (Nat.le_of_ble_eq_true rfl) (Nat.le_of_ble_eq_true rfl) dd_J7_copyOfRange_39247_0.2.2.2.2.2.2.2.2.2.1 rfl (fun v_4 u_5 hp_6 => ?_)
    obtain ⟨q_7, rfl, rfl⟩ := hp_6
    refine xr_perm C 2 [0, 1] [] [[(a, .inl (cy 0, an, .inl af))], [(q_7, .inl (cy 0, x_3.2, .inl x_3.1))]] rfl (by decide +kernel) rfl ?_
    refine xr_st (st' := [.ref q_7]) rfl ?_
    obtain rfl := Option.some.inj hR
    exact ret q_7 ⟨q_7, rfl, rfl⟩ (Nat.le_of_ble_eq_true rfl) (Nat.le_of_ble_eq_true rfl) dd_J7_copyOfRange_39247_0.2.2.2.2.2.2.2.2.2.2.1
theorem dd_J0_init_db425_0 : dk_R cJ0_init_db425 [(0, .aload_n 0, 1), (1, .invokespecial 1, 3), (4, .aload_n 1, 1), (5, .invokevirtual 552, 3), (8, .astore_n 3, 1), (9, .aload_n 1, 1), (10, .invokevirtual 549, 3), (13, .istore 4, 2), (15, .aload_n 1, 1), (16, .invokevirtual 1047, 3), (19, .ifCond .eq 22, 3), (22, .aload_n 0, 1), (23, .iconst 0, 1), (24, .putfield 15, 3), (27, .aload_n 0, 1), (28, .aload_n 3, 1)] := dk_use _ _ (by decide +kernel)
theorem dd_J0_init_db425_1 : dk_R cJ0_init_db425 [(29, .iconst 0, 1), (30, .iload 4, 2), (32, .invokestatic 54, 3), (35, .putfield 9, 3), (38, .goto 59, 3), (41, .getstatic 38, 3), (44, .ifCond .eq 35, 3), (47, .aload_n 1, 1), (48, .getfield 1048, 3), (51, .ifCond .eq 28, 3), (54, .aload_n 0, 1), (55, .aload_n 3, 1), (56, .iconst 0, 1), (57, .iload 4, 2), (59, .invokestatic 1051, 3), (62, .putfield 9, 3)] := dk_use _ _ (by decide +kernel)
theorem dd_J0_init_db425_2 : dk_R cJ0_init_db425 [(65, .aload_n 0, 1), (66, .aload_n 0, 1), (67, .getfield 9, 3), (70, .iload 4, 2), (72, .invokestatic 47, 3), (75, .putfield 15, 3), (78, .return_, 1), (79, .aload_n 0, 1), (80, .iconst 1, 1), (81, .putfield 15, 3), (84, .aload_n 0, 1), (85, .aload_n 3, 1), (86, .iconst 0, 1), (87, .iload 4, 2), (89, .iconst 1, 1), (90, .ishl, 1)] := dk_use _ _ (by decide +kernel)
theorem dd_J0_init_db425_3 : dk_R cJ0_init_db425 [(91, .invokestatic 54, 3), (94, .putfield 9, 3), (97, .return_, 1)] := dk_use _ _ (by decide +kernel)
def fJ0_init_db425 (hc : Int32) (hf : Nat → Int32) (hn : Nat) : Option ((Nat → Int32) × Nat) := ((fJ5_getValue_6d5f1).bind fun x_1 => ((fJ4_length_8abf5 hc).bind fun x_5 => ((fJ5_isLatin1_aae02).bind fun x_9 => ((fJ7_copyOfRange_39247 hf hn x_5).bind fun x_14 => some (x_14.1, x_14.2)))))
abbrev hJ0_init_db425 : Cond := .code yJ0_init_db425 cJ0_init_db425 5 none
theorem mJ0_init_db425 : yM yJ0_init_db425 hJ0_init_db425 2 := ⟨u_1045, u_77, by decide +kernel, by decide +kernel, by decide +kernel⟩
set_option maxHeartbeats 4000000 in
set_option maxRecDepth 100000 in
theorem kJ0_init_db425 (l : Launch) (D : va_G) (cy : Nat → ClassId) (o : Nat) (h : Nat) (hv : Nat) (hc : Int32) (hf : Nat → Int32) (hn : Nat) {res : (Nat → Int32) × Nat} (hR : fJ0_init_db425 hc hf hn = some res) : YM l D cy yJ0_init_db425 hJ0_init_db425 4 1 16 [.ref o, .ref h, .null] [[(o, .inr (0, [.null, .int 0, .int 0, .int 0]))], [(h, .inr (1, [.ref hv, .int 0, .int 0, .int hc]))], [(hv, .inl (cy 0, hn, .inl hf))]] (fun v u => ∃ ov : Nat, v = none ∧ u = [[(o, .inr (0, [.ref ov, .int 0, .int 0, .int 0]))], [(ov, .inl (cy 0, res.2, .inl res.1))], [(h, .inr (1, [.ref hv, .int 0, .int 0, .int hc]))], [(hv, .inl (cy 0, hn, .inl hf))]]) := by
  unfold fJ0_init_db425 at hR
  refine YM.ofV (cc := cJ0_init_db425) (maxL := 5) (ret := none) (by decide +kernel) rfl (Nat.le_of_ble_eq_true rfl) [(0, .ref o), (1, .ref h), (2, .null)] rfl rfl (fun p e s m args below meth c A H0 Q C hnm ret => ?_)
  refine xr_aload_n (n := 1) (j := 0) C dd_J0_init_db425_0.1 rfl rfl ?_
  refine xr_objInit (n := 4) C u_1046 u_90 u_91 (Nat.le_of_ble_eq_true rfl) (Nat.le_of_ble_eq_true rfl) (Nat.le_of_ble_eq_true rfl) dd_J0_init_db425_0.2.1 rfl ?_
  refine xr_aload_n (n := 5) (j := 1) C dd_J0_init_db425_0.2.2.1 rfl rfl ?_
  obtain ⟨x_1, hx_1, hR⟩ := yf_b hR
  refine xr_callUp (n := 8) (As := []) (rest := []) C (kJ5_getValue_6d5f1 l D cy (h := h) (hv := hv) (hc := hc) hx_1) mJ5_getValue_6d5f1 u_1047 u_1048 u_1049 1 rfl rfl (C.2.2.2.2.1 _ u_1050) 3 [1] [0, 2] rfl (by decide +kernel) rfl rfl rfl rfl (Nat.le_of_ble_eq_true rfl) (Nat.le_of_ble_eq_true rfl) (Nat.le_of_ble_eq_true rfl) (Nat.le_of_ble_eq_true rfl) (Nat.le_of_ble_eq_true rfl) dd_J0_init_db425_0.2.2.2.1 rfl (fun _ _ hp => hp.2) (fun v_2 hp_4 => ?_)
  obtain ⟨rfl, -⟩ := hp_4
  refine xr_st (st' := [.ref hv]) rfl ?_
  refine xr_astore_n (n := 9) C [(3, .ref hv), (0, .ref o), (1, .ref h), (2, .null)] dd_J0_init_db425_0.2.2.2.2.1 (by decide) rfl rfl ?_
  refine xr_aload_n (n := 10) (j := 2) C dd_J0_init_db425_0.2.2.2.2.2.1 rfl rfl ?_
  obtain ⟨x_5, hx_5, hR⟩ := yf_b hR
  refine xr_callOp (n := 13) (As := []) (rest := []) C (kJ4_length_8abf5 l D cy (h := h) (hv := hv) (hc := hc) hx_5) mJ4_length_8abf5 u_1052 u_1056 u_1054 u_1053 u_1059 (by decide +kernel) 1 rfl rfl u_1055 3 [1] [0, 2] rfl (by decide +kernel) rfl rfl rfl rfl (Nat.le_of_ble_eq_true rfl) (Nat.le_of_ble_eq_true rfl) (Nat.le_of_ble_eq_true rfl) (Nat.le_of_ble_eq_true rfl) (Nat.le_of_ble_eq_true rfl) dd_J0_init_db425_0.2.2.2.2.2.2.1 rfl (fun _ _ hp => hp.2) (fun v_6 hp_8 => ?_)
  obtain ⟨rfl, -⟩ := hp_8
  refine xr_st (st' := [.int x_5]) rfl ?_
  refine xr_istore (n := 15) C [(4, .int x_5), (3, .ref hv), (0, .ref o), (1, .ref h), (2, .null)] dd_J0_init_db425_0.2.2.2.2.2.2.2.1 (by decide) rfl rfl ?_
  refine xr_aload_n (n := 16) (j := 3) C dd_J0_init_db425_0.2.2.2.2.2.2.2.2.1 rfl rfl ?_
  obtain ⟨x_9, hx_9, hR⟩ := yf_b hR
  obtain rfl := Option.some.inj (show some ((1) : Int32) = some x_9 from hx_9)
  refine xr_callUp (n := 19) (As := []) (rest := []) C (kJ5_isLatin1_aae02 l D cy (h := h) (hv := hv) (hc := hc) hx_9) mJ5_isLatin1_aae02 u_1060 u_982 u_983 1 rfl rfl (C.2.2.2.2.1 _ u_984) 3 [1] [0, 2] rfl (by decide +kernel) rfl rfl rfl rfl (Nat.le_of_ble_eq_true rfl) (Nat.le_of_ble_eq_true rfl) (Nat.le_of_ble_eq_true rfl) (Nat.le_of_ble_eq_true rfl) (Nat.le_of_ble_eq_true rfl) dd_J0_init_db425_0.2.2.2.2.2.2.2.2.2.1 rfl (fun _ _ hp => hp.2) (fun v_10 hp_12 => ?_)
  obtain ⟨rfl, -⟩ := hp_12
  refine xr_st (st' := [.int 1]) rfl ?_
  refine xr_if_eq (tgt := 41) (n := 22) C dd_J0_init_db425_0.2.2.2.2.2.2.2.2.2.2.1 rfl rfl (fun c_13 => absurd c_13 (by decide)) (fun _ => ?_)
  refine xr_aload_n (n := 23) (j := 2) C dd_J0_init_db425_0.2.2.2.2.2.2.2.2.2.2.2.1 rfl rfl ?_
  refine xr_iconst (n := 24) (v := 0) C dd_J0_init_db425_0.2.2.2.2.2.2.2.2.2.2.2.2.1 rfl rfl ?_
  refine xr_putF (n := 27) C 0 rfl rfl 1 (by decide) in_J0 tyJ0 tyJ0_ok nmJ0 u_1162 rfl rfl hnm rfl rfl rfl (Nat.le_of_ble_eq_true rfl) [[(o, .inr (0, [.null, .int 0, .int 0, .int 0]))], [(h, .inr (1, [.ref hv, .int 0, .int 0, .int hc]))], [(hv, .inl (cy 0, hn, .inl hf))]] rfl rfl dd_J0_init_db425_0.2.2.2.2.2.2.2.2.2.2.2.2.2.1 ?_
  refine xr_aload_n (n := 28) (j := 2) C dd_J0_init_db425_0.2.2.2.2.2.2.2.2.2.2.2.2.2.2.1 rfl rfl ?_
  refine xr_aload_n (n := 29) (j := 1) C dd_J0_init_db425_0.2.2.2.2.2.2.2.2.2.2.2.2.2.2.2.1 rfl rfl ?_
  refine xr_iconst (n := 30) (v := 0) C dd_J0_init_db425_1.1 rfl rfl ?_
  refine xr_iload (n := 32) (j := 0) C dd_J0_init_db425_1.2.1 rfl rfl ?_
  obtain ⟨x_14, hx_14, hR⟩ := yf_b hR
  refine xr_callS (n := 35) (As := [.ref hv, .int 0, .int x_5]) (rest := [.ref o]) C (kJ7_copyOfRange_39247 l D cy (a := hv) (af := hf) (an := hn) (i2 := x_5) hx_14) mJ7_copyOfRange_39247 u_1061 u_1062 3 [2] [0, 1] rfl (by decide +kernel) rfl rfl rfl rfl (Nat.le_of_ble_eq_true rfl) (Nat.le_of_ble_eq_true rfl) (Nat.le_of_ble_eq_true rfl) (Nat.le_of_ble_eq_true rfl) (Nat.le_of_ble_eq_true rfl) dd_J0_init_db425_1.2.2.1 rfl (fun v_15 u_16 hp_17 => ?_)
  obtain ⟨q_18, rfl, rfl⟩ := hp_17
  refine xr_perm C 4 [2, 3, 0, 1] [] [[(o, .inr (0, [.null, .int 0, .int 0, .int 0]))], [(h, .inr (1, [.ref hv, .int 0, .int 0, .int hc]))], [(hv, .inl (cy 0, hn, .inl hf))], [(q_18, .inl (cy 0, x_14.2, .inl x_14.1))]] rfl (by decide +kernel) rfl ?_
  refine xr_st (st' := [.ref q_18, .ref o]) rfl ?_
  refine xr_putF (n := 38) C 0 rfl rfl 0 (by decide) in_J0 tyJ0 tyJ0_ok nmJ0 u_1161 rfl rfl hnm rfl rfl rfl (Nat.le_of_ble_eq_true rfl) [[(o, .inr (0, [.ref q_18, .int 0, .int 0, .int 0]))], [(h, .inr (1, [.ref hv, .int 0, .int 0, .int hc]))], [(hv, .inl (cy 0, hn, .inl hf))], [(q_18, .inl (cy 0, x_14.2, .inl x_14.1))]] rfl rfl dd_J0_init_db425_1.2.2.2.1 ?_
  refine xr_goto (tgt := 97) C dd_J0_init_db425_1.2.2.2.2.1 rfl ?_
  obtain rfl := Option.some.inj hR
  refine xr_perm C 4 [0, 3, 1, 2] [] [[(o, .inr (0, [.ref q_18, .int 0, .int 0, .int 0]))], [(q_18, .inl (cy 0, x_14.2, .inl x_14.1))], [(h, .inr (1, [.ref hv, .int 0, .int 0, .int hc]))], [(hv, .inl (cy 0, hn, .inl hf))]] rfl (by decide +kernel) rfl ?_
  exact ret ⟨q_18, rfl, rfl⟩ (Nat.le_of_ble_eq_true rfl) (Nat.le_of_ble_eq_true rfl) dd_J0_init_db425_3.2.2.1
theorem dd_J0_init_81219_0 : dk_R cJ0_init_81219 [(0, .aload_n 0, 1), (1, .aload_n 1, 1), (2, .aconst_null, 1), (3, .invokespecial 489, 3), (6, .return_, 1)] := dk_use _ _ (by decide +kernel)
def fJ0_init_81219 (hc : Int32) (hf : Nat → Int32) (hn : Nat) : Option ((Nat → Int32) × Nat) := ((fJ0_init_db425 hc hf hn).bind fun x_1 => some (x_1.1, x_1.2))
abbrev hJ0_init_81219 : Cond := .code yJ0_init_81219 cJ0_init_81219 2 none
theorem mJ0_init_81219 : yM yJ0_init_81219 hJ0_init_81219 1 := ⟨u_1042, u_77, by decide +kernel, by decide +kernel, by decide +kernel⟩
set_option maxHeartbeats 4000000 in
set_option maxRecDepth 100000 in
theorem kJ0_init_81219 (l : Launch) (D : va_G) (cy : Nat → ClassId) (o : Nat) (h : Nat) (hv : Nat) (hc : Int32) (hf : Nat → Int32) (hn : Nat) {res : (Nat → Int32) × Nat} (hR : fJ0_init_81219 hc hf hn = some res) : YM l D cy yJ0_init_81219 hJ0_init_81219 5 1 16 [.ref o, .ref h] [[(o, .inr (0, [.null, .int 0, .int 0, .int 0]))], [(h, .inr (1, [.ref hv, .int 0, .int 0, .int hc]))], [(hv, .inl (cy 0, hn, .inl hf))]] (fun v u => ∃ ov : Nat, v = none ∧ u = [[(o, .inr (0, [.ref ov, .int 0, .int 0, .int 0]))], [(ov, .inl (cy 0, res.2, .inl res.1))], [(h, .inr (1, [.ref hv, .int 0, .int 0, .int hc]))], [(hv, .inl (cy 0, hn, .inl hf))]]) := by
  unfold fJ0_init_81219 at hR
  refine YM.ofV (cc := cJ0_init_81219) (maxL := 2) (ret := none) (by decide +kernel) rfl (Nat.le_of_ble_eq_true rfl) [(0, .ref o), (1, .ref h)] rfl rfl (fun p e s m args below meth c A H0 Q C hnm ret => ?_)
  refine xr_aload_n (n := 1) (j := 0) C dd_J0_init_81219_0.1 rfl rfl ?_
  refine xr_aload_n (n := 2) (j := 1) C dd_J0_init_81219_0.2.1 rfl rfl ?_
  refine xr_null (n := 3) C dd_J0_init_81219_0.2.2.1 rfl ?_
  obtain ⟨x_1, hx_1, hR⟩ := yf_b hR
  refine xr_callI (n := 6) (As := [.ref h, .null]) (rest := []) C (kJ0_init_db425 l D cy (o := o) (h := h) (hv := hv) (hc := hc) (hf := hf) (hn := hn) hx_1) mJ0_init_db425 u_1043 u_1044 rfl 3 [0, 1, 2] [] rfl (by decide +kernel) rfl rfl rfl rfl (Nat.le_of_ble_eq_true rfl) (Nat.le_of_ble_eq_true rfl) (Nat.le_of_ble_eq_true rfl) (Nat.le_of_ble_eq_true rfl) (Nat.le_of_ble_eq_true rfl) dd_J0_init_81219_0.2.2.2.1 rfl (fun v_2 u_3 hp_4 => ?_)
  obtain ⟨q_5, rfl, rfl⟩ := hp_4
  refine xr_perm C 4 [0, 1, 2, 3] [] [[(o, .inr (0, [.ref q_5, .int 0, .int 0, .int 0]))], [(q_5, .inl (cy 0, x_1.2, .inl x_1.1))], [(h, .inr (1, [.ref hv, .int 0, .int 0, .int hc]))], [(hv, .inl (cy 0, hn, .inl hf))]] rfl (by decide +kernel) rfl ?_
  obtain rfl := Option.some.inj hR
  exact ret ⟨q_5, rfl, rfl⟩ (Nat.le_of_ble_eq_true rfl) (Nat.le_of_ble_eq_true rfl) dd_J0_init_81219_0.2.2.2.2.1
theorem dd_J4_toString_0e30d_0 : dk_R cJ4_toString_0e30d [(0, .new 18, 3), (3, .dup, 1), (4, .aload_n 0, 1), (5, .invokespecial 137, 3), (8, .areturn, 1)] := dk_use _ _ (by decide +kernel)
def fJ4_toString_0e30d (hc : Int32) (hf : Nat → Int32) (hn : Nat) : Option ((Nat → Int32) × Nat) := ((fJ0_init_81219 hc hf hn).bind fun x_2 => some (x_2.1, x_2.2))
abbrev hJ4_toString_0e30d : Cond := .code yJ4_toString_0e30d cJ4_toString_0e30d 1 (some (.object "java/lang/String"))
theorem mJ4_toString_0e30d : yM yJ4_toString_0e30d hJ4_toString_0e30d 0 := ⟨u_1037, u_76, by decide +kernel, by decide +kernel, by decide +kernel⟩
set_option maxHeartbeats 4000000 in
set_option maxRecDepth 100000 in
theorem kJ4_toString_0e30d (l : Launch) (D : va_G) (cy : Nat → ClassId) (h : Nat) (hv : Nat) (hc : Int32) (hf : Nat → Int32) (hn : Nat) {res : (Nat → Int32) × Nat} (hR : fJ4_toString_0e30d hc hf hn = some res) : YM l D cy yJ4_toString_0e30d hJ4_toString_0e30d 6 2 20 [.ref h] [[(h, .inr (1, [.ref hv, .int 0, .int 0, .int hc]))], [(hv, .inl (cy 0, hn, .inl hf))]] (fun v u => ∃ o : Nat, ∃ ov : Nat, v = some (.ref o) ∧ u = [[(h, .inr (1, [.ref hv, .int 0, .int 0, .int hc]))], [(hv, .inl (cy 0, hn, .inl hf))], [(o, .inr (0, [.ref ov, .int 0, .int 0, .int 0]))], [(ov, .inl (cy 0, res.2, .inl res.1))]]) := by
  unfold fJ4_toString_0e30d at hR
  refine YM.ofA (cc := cJ4_toString_0e30d) (maxL := 1) (ret := (some (.object "java/lang/String"))) (by decide +kernel) rfl (Nat.le_of_ble_eq_true rfl) [(0, .ref h)] rfl (.object "java/lang/String") rfl (Or.inl ⟨_, rfl⟩) (fun p e s m args below meth c A H0 Q C hnm ret => ?_)
  refine xr_new (n := 3) (ci := 0) C tyJ0 tyJ0_ok in_J0 u_1038 u_1039 u_77 rfl [.null, .int 0, .int 0, .int 0] (by decide) (Nat.le_of_ble_eq_true rfl) (Nat.le_of_ble_eq_true rfl) dd_J4_toString_0e30d_0.1 rfl (fun q_1 => ?_)
  refine xr_eq (bs' := [[(h, .inr (1, [.ref hv, .int 0, .int 0, .int hc]))], [(hv, .inl (cy 0, hn, .inl hf))], [(q_1, .inr (0, [.null, .int 0, .int 0, .int 0]))]]) rfl ?_
  refine xr_dup (n := 4) C dd_J4_toString_0e30d_0.2.1 rfl rfl ?_
  refine xr_aload_n (n := 5) (j := 0) C dd_J4_toString_0e30d_0.2.2.1 rfl rfl ?_
  obtain ⟨x_2, hx_2, hR⟩ := yf_b hR
  refine xr_callI (n := 8) (As := [.ref h]) (rest := [.ref q_1]) C (kJ0_init_81219 l D cy (o := q_1) (h := h) (hv := hv) (hc := hc) (hf := hf) (hn := hn) hx_2) mJ0_init_81219 u_1040 u_1041 rfl 3 [2, 0, 1] [] rfl (by decide +kernel) rfl rfl rfl rfl (Nat.le_of_ble_eq_true rfl) (Nat.le_of_ble_eq_true rfl) (Nat.le_of_ble_eq_true rfl) (Nat.le_of_ble_eq_true rfl) (Nat.le_of_ble_eq_true rfl) dd_J4_toString_0e30d_0.2.2.2.1 rfl (fun v_3 u_4 hp_5 => ?_)
  obtain ⟨q_6, rfl, rfl⟩ := hp_5
  refine xr_perm C 4 [1, 2, 0, 3] [] [[(q_6, .inl (cy 0, x_2.2, .inl x_2.1))], [(h, .inr (1, [.ref hv, .int 0, .int 0, .int hc]))], [(q_1, .inr (0, [.ref q_6, .int 0, .int 0, .int 0]))], [(hv, .inl (cy 0, hn, .inl hf))]] rfl (by decide +kernel) rfl ?_
  obtain rfl := Option.some.inj hR
  refine xr_perm C 4 [1, 3, 2, 0] [] [[(h, .inr (1, [.ref hv, .int 0, .int 0, .int hc]))], [(hv, .inl (cy 0, hn, .inl hf))], [(q_1, .inr (0, [.ref q_6, .int 0, .int 0, .int 0]))], [(q_6, .inl (cy 0, x_2.2, .inl x_2.1))]] rfl (by decide +kernel) rfl ?_
  exact ret q_1 ⟨q_1, q_6, rfl, rfl⟩ (Nat.le_of_ble_eq_true rfl) (Nat.le_of_ble_eq_true rfl) dd_J4_toString_0e30d_0.2.2.2.2.1
theorem dd_X6_row_0 : dk_R cX6_row [(0, .iload_n 1, 1), (1, .ifCond .lt 8, 3), (4, .iload_n 1, 1), (5, .iconst 5, 1), (6, .if_icmp .lt 13, 3), (9, .new 69, 3), (12, .dup, 1), (13, .ldc 212, 2), (15, .invokespecial 73, 3), (18, .athrow, 1), (19, .new 214, 3), (22, .dup, 1), (23, .invokespecial 216, 3), (26, .astore_n 2, 1), (27, .iconst 0, 1), (28, .istore_n 3, 1)] := dk_use _ _ (by decide +kernel)
theorem dd_X6_row_1 : dk_R cX6_row [(29, .iload_n 3, 1), (30, .iconst 5, 1), (31, .if_icmp .ge 20, 3), (34, .aload_n 2, 1), (35, .aload_n 0, 1), (36, .iload_n 1, 1), (37, .iload_n 3, 1), (38, .invokevirtual 217, 3), (41, .invokevirtual 221, 3), (44, .pop, 1), (45, .iinc 3 1, 3), (48, .goto (-19), 3), (51, .aload_n 2, 1), (52, .invokevirtual 225, 3), (55, .areturn, 1)] := dk_use _ _ (by decide +kernel)
def fX6_row (xwb : Int32) (xwk : Int32) (xobl : Int32) (xoy3 : Int32) (xoy4 : Int32) (i1 : Int32) : Option (Nat ⊕ ((Nat → Int32) × Nat)) := (if i1 < 0 then some (.inl 1) else (if i1 < 5 then ((fJ4_init_da8c8).bind fun x_4 => ((wl (S := Int32 × Int32 × (Nat → Int32)) (B := Int32 × Int32 × (Nat → Int32)) (fun s_9 => (if 5 ≤ s_9.1 then some (.inr (s_9.1, s_9.2.1, s_9.2.2)) else ((fX6_signOf xwb xwk xobl xoy3 xoy4 i1 s_9.1).bind fun x_18 => ((fJ4_append_cf468 s_9.2.1 s_9.2.2 16 x_18).bind fun x_22 => some (.inl (s_9.1 + 1, x_22.1, x_22.2)))))) yFuel (0, 0, fun _ => 0)).bind fun b_9 => ((fJ4_toString_0e30d b_9.2.1 b_9.2.2 16).bind fun x_10 => some (.inr (x_10.1, x_10.2))))) else some (.inl 1)))
abbrev hX6_row : Cond := .code yX6_row cX6_row 4 (some (.object "java/lang/String"))
theorem mX6_row : yM yX6_row hX6_row 1 := ⟨u_905, u_57, by decide +kernel, by decide +kernel, by decide +kernel⟩
set_option maxHeartbeats 4000000 in
set_option maxRecDepth 100000 in
theorem kX6_row (l : Launch) (D : va_G) (cy : Nat → ClassId) (hl0 : l.stackTraces = false) (x : Nat) (xj : Nat) (xw : Nat) (xz : Nat) (xo : Nat) (xy : Nat) (xt : Nat) (xwu : Nat) (xwm : Nat) (xwb : Int32) (xwk : Int32) (xoj : Nat) (xoy : Nat) (xosk : Int32) (xoti : Int32) (xofr : Int32) (xofc : Int32) (xobt : Int32) (xobl : Int32) (xobe : Int32) (xose : Int32) (xotk : Int32) (xoy0 : Int32) (xoy1 : Int32) (xoy2 : Int32) (xoy3 : Int32) (xoy4 : Int32) (xoy5 : Int32) (xoy6 : Int32) (xoy7 : Int32) (xoy8 : Int32) (xoy9 : Int32) (i1 : Int32) {res : Nat ⊕ ((Nat → Int32) × Nat)} (hR : fX6_row xwb xwk xobl xoy3 xoy4 i1 = some res) : YX l D cy yX6_row hX6_row 7 4 40 [.ref x, .int i1] [[(x, .inr (8, [.ref xj, .ref xw, .ref xz, .ref xo, .ref xy, .ref xt]))], [(xw, .inr (2, [.ref xwu, .ref xwm, .int xwb, .int xwk]))], [(xo, .inr (7, [.ref xoj, .ref xoy, .int xosk, .int xoti, .int xofr, .int xofc, .int xobt, .int xobl, .int xobe, .int xose, .int xotk]))], [(xoy, .inr (4, [.int xoy0, .int xoy1, .int xoy2, .int xoy3, .int xoy4, .int xoy5, .int xoy6, .int xoy7, .int xoy8, .int xoy9]))]] (fun v u => ∃ r, res = .inr r ∧ ∃ rs : Nat, ∃ rsv : Nat, v = some (.ref rs) ∧ u = [[(x, .inr (8, [.ref xj, .ref xw, .ref xz, .ref xo, .ref xy, .ref xt]))], [(xw, .inr (2, [.ref xwu, .ref xwm, .int xwb, .int xwk]))], [(xo, .inr (7, [.ref xoj, .ref xoy, .int xosk, .int xoti, .int xofr, .int xofc, .int xobt, .int xobl, .int xobe, .int xose, .int xotk]))], [(xoy, .inr (4, [.int xoy0, .int xoy1, .int xoy2, .int xoy3, .int xoy4, .int xoy5, .int xoy6, .int xoy7, .int xoy8, .int xoy9]))], [(rs, .inr (0, [.ref rsv, .int 0, .int 0, .int 0]))], [(rsv, .inl (cy 0, r.2, .inl r.1))]]) (fun E u => ∃ r, res = .inl r ∧ E = yE r ∧ u = [[(x, .inr (8, [.ref xj, .ref xw, .ref xz, .ref xo, .ref xy, .ref xt]))], [(xw, .inr (2, [.ref xwu, .ref xwm, .int xwb, .int xwk]))], [(xo, .inr (7, [.ref xoj, .ref xoy, .int xosk, .int xoti, .int xofr, .int xofc, .int xobt, .int xobl, .int xobe, .int xose, .int xotk]))], [(xoy, .inr (4, [.int xoy0, .int xoy1, .int xoy2, .int xoy3, .int xoy4, .int xoy5, .int xoy6, .int xoy7, .int xoy8, .int xoy9]))]]) := by
  unfold fX6_row at hR
  refine YX.ofA (cc := cX6_row) (maxL := 4) (ret := (some (.object "java/lang/String"))) hl0 (by decide +kernel) rfl (Nat.le_of_ble_eq_true rfl) [(0, .ref x), (1, .int i1)] rfl (.object "java/lang/String") rfl (Or.inl ⟨_, rfl⟩) (fun p e s m args below meth c A H0 Q C ret thr => ?_)
  refine xr_iload_n (n := 1) (j := 1) C dd_X6_row_0.1 rfl rfl ?_
  refine xr_if_lt (tgt := 9) (n := 4) C dd_X6_row_0.2.1 rfl rfl (fun c_1 => ?_) (fun c_1 => ?_)
  · replace hR := yf_t c_1 hR
    obtain rfl := Option.some.inj hR
    exact thr "java/lang/IndexOutOfBoundsException" "the mesh has no such row" 69 212 73 yt_X6_212 ⟨_, rfl, rfl, rfl⟩ (Nat.le_of_ble_eq_true rfl) (Nat.le_of_ble_eq_true rfl) (Nat.le_of_ble_eq_true rfl) (Nat.le_of_ble_eq_true rfl) dd_X6_row_0.2.2.2.2.2.1 dd_X6_row_0.2.2.2.2.2.2.1 dd_X6_row_0.2.2.2.2.2.2.2.1 dd_X6_row_0.2.2.2.2.2.2.2.2.1 dd_X6_row_0.2.2.2.2.2.2.2.2.2.1
  · replace hR := yf_f c_1 hR
    refine xr_iload_n (n := 5) (j := 1) C dd_X6_row_0.2.2.1 rfl rfl ?_
    refine xr_iconst (n := 6) (v := 5) C dd_X6_row_0.2.2.2.1 rfl rfl ?_
    refine xr_icmp_lt (tgt := 19) (n := 9) C dd_X6_row_0.2.2.2.2.1 rfl rfl (fun c_2 => ?_) (fun c_2 => ?_)
    · replace hR := yf_t c_2 hR
      refine xr_new (n := 22) (ci := 1) C tyJ4 tyJ4_ok in_J4 u_907 u_908 u_76 rfl [.null, .int 0, .int 0, .int 0] (by decide) (Nat.le_of_ble_eq_true rfl) (Nat.le_of_ble_eq_true rfl) dd_X6_row_0.2.2.2.2.2.2.2.2.2.2.1 rfl (fun q_3 => ?_)
      refine xr_eq (bs' := [[(x, .inr (8, [.ref xj, .ref xw, .ref xz, .ref xo, .ref xy, .ref xt]))], [(xw, .inr (2, [.ref xwu, .ref xwm, .int xwb, .int xwk]))], [(xo, .inr (7, [.ref xoj, .ref xoy, .int xosk, .int xoti, .int xofr, .int xofc, .int xobt, .int xobl, .int xobe, .int xose, .int xotk]))], [(xoy, .inr (4, [.int xoy0, .int xoy1, .int xoy2, .int xoy3, .int xoy4, .int xoy5, .int xoy6, .int xoy7, .int xoy8, .int xoy9]))], [(q_3, .inr (1, [.null, .int 0, .int 0, .int 0]))]]) rfl ?_
      refine xr_dup (n := 23) C dd_X6_row_0.2.2.2.2.2.2.2.2.2.2.2.1 rfl rfl ?_
      obtain ⟨x_4, hx_4, hR⟩ := yf_b hR
      refine xr_callI (n := 26) (As := []) (rest := [.ref q_3]) C (kJ4_init_da8c8 l D cy (h := q_3) hx_4) mJ4_init_da8c8 u_909 u_910 rfl 5 [4] [0, 1, 2, 3] rfl (by decide +kernel) rfl rfl rfl rfl (Nat.le_of_ble_eq_true rfl) (Nat.le_of_ble_eq_true rfl) (Nat.le_of_ble_eq_true rfl) (Nat.le_of_ble_eq_true rfl) (Nat.le_of_ble_eq_true rfl) dd_X6_row_0.2.2.2.2.2.2.2.2.2.2.2.2.1 rfl (fun v_5 u_6 hp_7 => ?_)
      obtain ⟨q_8, rfl, rfl⟩ := hp_7
      refine xr_perm C 6 [2, 3, 4, 5, 0, 1] [] [[(x, .inr (8, [.ref xj, .ref xw, .ref xz, .ref xo, .ref xy, .ref xt]))], [(xw, .inr (2, [.ref xwu, .ref xwm, .int xwb, .int xwk]))], [(xo, .inr (7, [.ref xoj, .ref xoy, .int xosk, .int xoti, .int xofr, .int xofc, .int xobt, .int xobl, .int xobe, .int xose, .int xotk]))], [(xoy, .inr (4, [.int xoy0, .int xoy1, .int xoy2, .int xoy3, .int xoy4, .int xoy5, .int xoy6, .int xoy7, .int xoy8, .int xoy9]))], [(q_3, .inr (1, [.ref q_8, .int 0, .int 0, .int 0]))], [(q_8, .inl (cy 0, 16, .inl (fun _ => 0)))]] rfl (by decide +kernel) rfl ?_
      refine xr_astore_n (n := 27) C [(2, .ref q_3), (0, .ref x), (1, .int i1)] dd_X6_row_0.2.2.2.2.2.2.2.2.2.2.2.2.2.1 (by decide) rfl rfl ?_
      refine xr_iconst (n := 28) (v := 0) C dd_X6_row_0.2.2.2.2.2.2.2.2.2.2.2.2.2.2.1 rfl rfl ?_
      refine xr_istore_n (n := 29) C [(3, .int 0), (2, .ref q_3), (0, .ref x), (1, .int i1)] dd_X6_row_0.2.2.2.2.2.2.2.2.2.2.2.2.2.2.2.1 (by decide) rfl rfl ?_
      refine xr_lv (lv' := [(0, .ref x), (1, .int i1), (2, .ref q_3), (3, .int 0)]) [2, 3, 1, 0] rfl ?_
      obtain ⟨b_9, hb_9, hR⟩ := yf_b hR
      have K_9 : X p l e (yR 7 4 40) s m args below meth c D A H0 4 Q [[(x, .inr (8, [.ref xj, .ref xw, .ref xz, .ref xo, .ref xy, .ref xt]))], [(xw, .inr (2, [.ref xwu, .ref xwm, .int xwb, .int xwk]))], [(xo, .inr (7, [.ref xoj, .ref xoy, .int xosk, .int xoti, .int xofr, .int xofc, .int xobt, .int xobl, .int xobe, .int xose, .int xotk]))], [(xoy, .inr (4, [.int xoy0, .int xoy1, .int xoy2, .int xoy3, .int xoy4, .int xoy5, .int xoy6, .int xoy7, .int xoy8, .int xoy9]))], [(q_3, .inr (1, [.ref q_8, .int 0, .int 0, .int b_9.2.1]))], [(q_8, .inl (cy 0, 16, .inl b_9.2.2))]] (0 + 1 + 1) (0 + 4 + 16) [(2, .ref q_3)] 51 [] := by
        refine xr_aload_n (n := 52) (j := 0) C dd_X6_row_1.2.2.2.2.2.2.2.2.2.2.2.2.1 rfl rfl ?_
        obtain ⟨x_10, hx_10, hR⟩ := yf_b hR
        refine xr_callV (n := 55) (As := []) (rest := []) C (kJ4_toString_0e30d l D cy (h := q_3) (hv := q_8) (hc := b_9.2.1) (hf := b_9.2.2) (hn := 16) hx_10) mJ4_toString_0e30d u_1034 u_1035 u_1036 4 rfl rfl 6 [4, 5] [0, 1, 2, 3] rfl (by decide +kernel) rfl rfl rfl rfl (Nat.le_of_ble_eq_true rfl) (Nat.le_of_ble_eq_true rfl) (Nat.le_of_ble_eq_true rfl) (Nat.le_of_ble_eq_true rfl) (Nat.le_of_ble_eq_true rfl) dd_X6_row_1.2.2.2.2.2.2.2.2.2.2.2.2.2.1 rfl (fun v_11 u_12 hp_13 => ?_)
        obtain ⟨q_14, q_15, rfl, rfl⟩ := hp_13
        refine xr_perm C 8 [4, 5, 6, 7, 0, 1, 2, 3] [] [[(x, .inr (8, [.ref xj, .ref xw, .ref xz, .ref xo, .ref xy, .ref xt]))], [(xw, .inr (2, [.ref xwu, .ref xwm, .int xwb, .int xwk]))], [(xo, .inr (7, [.ref xoj, .ref xoy, .int xosk, .int xoti, .int xofr, .int xofc, .int xobt, .int xobl, .int xobe, .int xose, .int xotk]))], [(xoy, .inr (4, [.int xoy0, .int xoy1, .int xoy2, .int xoy3, .int xoy4, .int xoy5, .int xoy6, .int xoy7, .int xoy8, .int xoy9]))], [(q_3, .inr (1, [.ref q_8, .int 0, .int 0, .int b_9.2.1]))], [(q_8, .inl (cy 0, 16, .inl b_9.2.2))], [(q_14, .inr (0, [.ref q_15, .int 0, .int 0, .int 0]))], [(q_15, .inl (cy 0, x_10.2, .inl x_10.1))]] rfl (by decide +kernel) rfl ?_
        refine xr_st (st' := [.ref q_14]) rfl ?_
        obtain rfl := Option.some.inj hR
        refine xr_perm C 8 [0, 1, 2, 3, 6, 7] [4, 5] [[(x, .inr (8, [.ref xj, .ref xw, .ref xz, .ref xo, .ref xy, .ref xt]))], [(xw, .inr (2, [.ref xwu, .ref xwm, .int xwb, .int xwk]))], [(xo, .inr (7, [.ref xoj, .ref xoy, .int xosk, .int xoti, .int xofr, .int xofc, .int xobt, .int xobl, .int xobe, .int xose, .int xotk]))], [(xoy, .inr (4, [.int xoy0, .int xoy1, .int xoy2, .int xoy3, .int xoy4, .int xoy5, .int xoy6, .int xoy7, .int xoy8, .int xoy9]))], [(q_14, .inr (0, [.ref q_15, .int 0, .int 0, .int 0]))], [(q_15, .inl (cy 0, x_10.2, .inl x_10.1))]] rfl (by decide +kernel) rfl ?_
        exact ret q_14 ⟨_, rfl, q_14, q_15, rfl, rfl⟩ (Nat.le_of_ble_eq_true rfl) (Nat.le_of_ble_eq_true rfl) dd_X6_row_1.2.2.2.2.2.2.2.2.2.2.2.2.2.2.1
      refine y_loop (P := fun (s_9 : Int32 × Int32 × (Nat → Int32)) => X p l e (yR 7 4 40) s m args below meth c D A H0 4 Q [[(x, .inr (8, [.ref xj, .ref xw, .ref xz, .ref xo, .ref xy, .ref xt]))], [(xw, .inr (2, [.ref xwu, .ref xwm, .int xwb, .int xwk]))], [(xo, .inr (7, [.ref xoj, .ref xoy, .int xosk, .int xoti, .int xofr, .int xofc, .int xobt, .int xobl, .int xobe, .int xose, .int xotk]))], [(xoy, .inr (4, [.int xoy0, .int xoy1, .int xoy2, .int xoy3, .int xoy4, .int xoy5, .int xoy6, .int xoy7, .int xoy8, .int xoy9]))], [(q_3, .inr (1, [.ref q_8, .int 0, .int 0, .int s_9.2.1]))], [(q_8, .inl (cy 0, 16, .inl s_9.2.2))]] (0 + 1 + 1) (0 + 4 + 16) [(0, .ref x), (1, .int i1), (2, .ref q_3), (3, .int s_9.1)] 29 []) ?_ _ (0, 0, fun _ => 0) hb_9
      intro s_9 o_9 ho_9 hk_9 hx_9
      refine xr_iload_n (n := 30) (j := 3) C dd_X6_row_1.1 rfl rfl ?_
      refine xr_iconst (n := 31) (v := 5) C dd_X6_row_1.2.1 rfl rfl ?_
      refine xr_icmp_ge (tgt := 51) (n := 34) C dd_X6_row_1.2.2.1 rfl rfl (fun c_16 => ?_) (fun c_16 => ?_)
      · replace ho_9 := yf_t c_16 ho_9
        refine xr_lv (lv' := [(2, .ref q_3)]) [2] rfl ?_
        have e_17 := hx_9 _ (Option.some.inj ho_9).symm
        subst e_17
        exact K_9
      · replace ho_9 := yf_f c_16 ho_9
        refine xr_aload_n (n := 35) (j := 2) C dd_X6_row_1.2.2.2.1 rfl rfl ?_
        refine xr_aload_n (n := 36) (j := 0) C dd_X6_row_1.2.2.2.2.1 rfl rfl ?_
        refine xr_iload_n (n := 37) (j := 1) C dd_X6_row_1.2.2.2.2.2.1 rfl rfl ?_
        refine xr_iload_n (n := 38) (j := 3) C dd_X6_row_1.2.2.2.2.2.2.1 rfl rfl ?_
        obtain ⟨x_18, hx_18, ho_9⟩ := yf_b ho_9
        refine xr_callVp (n := 41) (As := [.int i1, .int s_9.1]) (rest := [.ref q_3]) C (kX6_signOf l D cy (x := x) (xj := xj) (xw := xw) (xz := xz) (xo := xo) (xy := xy) (xt := xt) (xwu := xwu) (xwm := xwm) (xwb := xwb) (xwk := xwk) (xoj := xoj) (xoy := xoy) (xosk := xosk) (xoti := xoti) (xofr := xofr) (xofc := xofc) (xobt := xobt) (xobl := xobl) (xobe := xobe) (xose := xose) (xotk := xotk) (xoy0 := xoy0) (xoy1 := xoy1) (xoy2 := xoy2) (xoy3 := xoy3) (xoy4 := xoy4) (xoy5 := xoy5) (xoy6 := xoy6) (xoy7 := xoy7) (xoy8 := xoy8) (xoy9 := xoy9) (i1 := i1) (i2 := s_9.1) hx_18) mX6_signOf u_938 u_940 u_27 0 rfl rfl 6 [0, 1, 2, 3] [4, 5] rfl (by decide +kernel) rfl rfl rfl rfl (Nat.le_of_ble_eq_true rfl) (Nat.le_of_ble_eq_true rfl) (Nat.le_of_ble_eq_true rfl) (Nat.le_of_ble_eq_true rfl) (Nat.le_of_ble_eq_true rfl) dd_X6_row_1.2.2.2.2.2.2.2.1 rfl (fun _ _ hp => hp.2) (fun v_19 hp_21 => ?_)
        obtain ⟨rfl, -⟩ := hp_21
        refine xr_st (st' := [.int x_18, .ref q_3]) rfl ?_
        obtain ⟨x_22, hx_22, ho_9⟩ := yf_b ho_9
        refine xr_callV (n := 44) (As := [.int x_18]) (rest := []) C (kJ4_append_cf468 l D cy (h := q_3) (hv := q_8) (hc := s_9.2.1) (hf := s_9.2.2) (hn := 16) (i1 := x_18) hx_22) mJ4_append_cf468 u_943 u_944 u_945 4 rfl rfl 6 [4, 5] [0, 1, 2, 3] rfl (by decide +kernel) rfl rfl rfl rfl (Nat.le_of_ble_eq_true rfl) (Nat.le_of_ble_eq_true rfl) (Nat.le_of_ble_eq_true rfl) (Nat.le_of_ble_eq_true rfl) (Nat.le_of_ble_eq_true rfl) dd_X6_row_1.2.2.2.2.2.2.2.2.1 rfl (fun v_23 u_24 hp_25 => ?_)
        obtain ⟨rfl, rfl⟩ := hp_25
        refine xr_perm C 6 [2, 3, 4, 5, 0, 1] [] [[(x, .inr (8, [.ref xj, .ref xw, .ref xz, .ref xo, .ref xy, .ref xt]))], [(xw, .inr (2, [.ref xwu, .ref xwm, .int xwb, .int xwk]))], [(xo, .inr (7, [.ref xoj, .ref xoy, .int xosk, .int xoti, .int xofr, .int xofc, .int xobt, .int xobl, .int xobe, .int xose, .int xotk]))], [(xoy, .inr (4, [.int xoy0, .int xoy1, .int xoy2, .int xoy3, .int xoy4, .int xoy5, .int xoy6, .int xoy7, .int xoy8, .int xoy9]))], [(q_3, .inr (1, [.ref q_8, .int 0, .int 0, .int x_22.1]))], [(q_8, .inl (cy 0, 16, .inl x_22.2))]] rfl (by decide +kernel) rfl ?_
        refine xr_st (st' := [.ref q_3]) rfl ?_
        refine xr_pop (n := 45) C dd_X6_row_1.2.2.2.2.2.2.2.2.2.1 rfl rfl ?_
        refine xr_iinc (j := 3) (v := s_9.1 + 1) (n := 48) C [(3, .int (s_9.1 + 1)), (0, .ref x), (1, .int i1), (2, .ref q_3)] dd_X6_row_1.2.2.2.2.2.2.2.2.2.2.1 rfl rfl (by decide) rfl rfl ?_
        refine xr_goto (tgt := 29) C dd_X6_row_1.2.2.2.2.2.2.2.2.2.2.2.1 rfl ?_
        refine xr_lv (lv' := [(0, .ref x), (1, .int i1), (2, .ref q_3), (3, .int (s_9.1 + 1))]) [1, 2, 3, 0] rfl ?_
        exact hk_9 (s_9.1 + 1, x_22.1, x_22.2) (Option.some.inj ho_9).symm
    · replace hR := yf_f c_2 hR
      obtain rfl := Option.some.inj hR
      exact thr "java/lang/IndexOutOfBoundsException" "the mesh has no such row" 69 212 73 yt_X6_212 ⟨_, rfl, rfl, rfl⟩ (Nat.le_of_ble_eq_true rfl) (Nat.le_of_ble_eq_true rfl) (Nat.le_of_ble_eq_true rfl) (Nat.le_of_ble_eq_true rfl) dd_X6_row_0.2.2.2.2.2.1 dd_X6_row_0.2.2.2.2.2.2.1 dd_X6_row_0.2.2.2.2.2.2.2.1 dd_X6_row_0.2.2.2.2.2.2.2.2.1 dd_X6_row_0.2.2.2.2.2.2.2.2.2.1
