theorem u_947 : Cond.methodLink RJ4 50 yJ5_append_3fe6f ∈ yU := yu_tables_1_4 171 (by decide +kernel) (by decide +kernel)
theorem u_948 : Cond.instanceMethod yJ5_append_3fe6f ∈ yU := yu_tables_1_4 172 (by decide +kernel) (by decide +kernel)
theorem u_1606 : Cond.sameMethod RJ5 RJ5 "append" "(C)Ljava/lang/AbstractStringBuilder;" ∈ yU := yu_tables_1_7 110 (by decide +kernel) (by decide +kernel)
theorem u_937 : Cond.superclass RJ4 RJ5 ∈ yU := yu_tables_1_4 161 (by decide +kernel) (by decide +kernel)
theorem u_946 : Cond.code yJ4_append_cf468 cJ4_append_cf468 2 (some (.object "java/lang/StringBuilde\x72")) ∈ yU := yu_tables_1_4 170 (by decide +kernel) (by decide +kernel)
theorem u_1051 : Cond.code yJ5_getValue_6d5f1 cJ5_getValue_6d5f1 1 (some (.array .byte)) ∈ yU := yu_tables_1_5 35 (by decide +kernel) (by decide +kernel)
theorem u_1059 : Cond.code yJ5_length_8abf5 cJ5_length_8abf5 1 (some .int) ∈ yU := yu_tables_1_5 43 (by decide +kernel) (by decide +kernel)
theorem u_1058 : Cond.methodLink RJ4 343 yJ5_length_8abf5 ∈ yU := yu_tables_1_5 42 (by decide +kernel) (by decide +kernel)
theorem u_1053 : Cond.instanceMethod yJ5_length_8abf5 ∈ yU := yu_tables_1_5 37 (by decide +kernel) (by decide +kernel)
theorem u_1054 : Cond.sameMethod RJ5 RJ5 "length" "()I" ∈ yU := yu_tables_1_5 38 (by decide +kernel) (by decide +kernel)
theorem u_1057 : Cond.code yJ4_length_8abf5 cJ4_length_8abf5 1 (some .int) ∈ yU := yu_tables_1_5 41 (by decide +kernel) (by decide +kernel)
theorem u_1069 : Cond.code yJ7_checkLength_df160 cJ7_checkLength_df160 2 none ∈ yU := yu_tables_1_5 53 (by decide +kernel) (by decide +kernel)
theorem u_80 : Cond.initialized RJ7 ∈ yU := yu_tables_1_1 24 (by decide +kernel) (by decide +kernel)
theorem u_1067 : Cond.methodLink RJ7 343 yJ7_checkLength_df160 ∈ yU := yu_tables_1_5 51 (by decide +kernel) (by decide +kernel)
theorem u_1068 : Cond.static yJ7_checkLength_df160 ∈ yU := yu_tables_1_5 52 (by decide +kernel) (by decide +kernel)
theorem u_977 : Cond.methodLink RJ7 304 yJ9_min_7cf53 ∈ yU := yu_tables_1_4 201 (by decide +kernel) (by decide +kernel)
theorem u_978 : Cond.methodLink RJ7 150 arraycopyName ∈ yU := yu_tables_1_4 202 (by decide +kernel) (by decide +kernel)
theorem u_980 : Cond.native arraycopyName ∈ yU := yu_tables_1_4 204 (by decide +kernel) (by decide +kernel)
theorem u_979 : Cond.static arraycopyName ∈ yU := yu_tables_1_4 203 (by decide +kernel) (by decide +kernel)
theorem u_81 : Cond.initialized RJ10 ∈ yU := yu_tables_1_1 25 (by decide +kernel) (by decide +kernel)
theorem u_1066 : Cond.code yJ7_copyOfRangeByte_39247 cJ7_copyOfRangeByte_39247 5 (some (.array .byte)) ∈ yU := yu_tables_1_5 50 (by decide +kernel) (by decide +kernel)
theorem dd_J4_append_cf468_0 : dk_R cJ4_append_cf468 [(0, .aload_n 0, 1), (1, .iload_n 1, 1), (2, .invokespecial 50, 3), (5, .pop, 1), (6, .aload_n 0, 1), (7, .areturn, 1)] := dk_use _ _ (by decide +kernel)
def fJ4_append_cf468 (hc : Int32) (hf : Nat → Int32) (hn : Nat) (i1 : Int32) : Option (Int32 × (Nat → Int32)) := ((fJ5_append_3fe6f hc hf hn i1).bind fun x_1 => some (x_1.1, x_1.2))
abbrev hJ4_append_cf468 : Cond := .code yJ4_append_cf468 cJ4_append_cf468 2 (some (.object "java/lang/StringBuilde\x72"))
theorem mJ4_append_cf468 : yM yJ4_append_cf468 hJ4_append_cf468 1 := ⟨u_946, u_76, by decide +kernel, by decide +kernel, by decide +kernel⟩
set_option maxHeartbeats 4000000 in
set_option maxRecDepth 100000 in
theorem kJ4_append_cf468 (l : Launch) (D : va_G) (cy : Nat → ClassId) (h : Nat) (hv : Nat) (hc : Int32) (hf : Nat → Int32) (hn : Nat) (i1 : Int32) {res : Int32 × (Nat → Int32)} (hR : fJ4_append_cf468 hc hf hn i1 = some res) : YM l D cy yJ4_append_cf468 hJ4_append_cf468 3 0 0 [.ref h, .int i1] [[(h, .inr (1, [.ref hv, .int 0, .int 0, .int hc]))], [(hv, .inl (cy 0, hn, .inl hf))]] (fun v u => v = some (.ref h) ∧ u = [[(h, .inr (1, [.ref hv, .int 0, .int 0, .int res.1]))], [(hv, .inl (cy 0, hn, .inl res.2))]]) := by
  unfold fJ4_append_cf468 at hR
  refine YM.ofA (cc := cJ4_append_cf468) (maxL := 2) (ret := (some (.object "java/lang/StringBuilde\x72"))) (by decide +kernel) rfl (Nat.le_of_ble_eq_true rfl) [(0, .ref h), (1, .int i1)] rfl (.object "java/lang/StringBuilde\x72") rfl (Or.inl ⟨_, rfl⟩) (fun p e s m args below meth c A H0 Q C hnm ret => ?_)
  refine xr_aload_n (n := 1) (j := 0) C dd_J4_append_cf468_0.1 rfl rfl ?_
  refine xr_iload_n (n := 2) (j := 1) C dd_J4_append_cf468_0.2.1 rfl rfl ?_
  obtain ⟨x_1, hx_1, hR⟩ := yf_b hR
  refine xr_callSU (n := 5) (As := [.int i1]) (rest := []) C (kJ5_append_3fe6f l D cy (h := h) (hv := hv) (hc := hc) (hf := hf) (hn := hn) (i1 := i1) hx_1) mJ5_append_3fe6f u_947 u_948 u_1606 u_937 (by decide +kernel) 0 rfl rfl 2 [0, 1] [] rfl (by decide +kernel) rfl rfl rfl rfl (Nat.le_of_ble_eq_true rfl) (Nat.le_of_ble_eq_true rfl) (Nat.le_of_ble_eq_true rfl) (Nat.le_of_ble_eq_true rfl) (Nat.le_of_ble_eq_true rfl) dd_J4_append_cf468_0.2.2.1 rfl (fun v_2 u_3 hp_4 => ?_)
  obtain ⟨rfl, rfl⟩ := hp_4
  refine xr_perm C 2 [0, 1] [] [[(h, .inr (1, [.ref hv, .int 0, .int 0, .int x_1.1]))], [(hv, .inl (cy 0, hn, .inl x_1.2))]] rfl (by decide +kernel) rfl ?_
  refine xr_st (st' := [.ref h]) rfl ?_
  refine xr_pop (n := 6) C dd_J4_append_cf468_0.2.2.2.1 rfl rfl ?_
  refine xr_aload_n (n := 7) (j := 0) C dd_J4_append_cf468_0.2.2.2.2.1 rfl rfl ?_
  obtain rfl := Option.some.inj hR
  exact ret h ⟨rfl, rfl⟩ (Nat.le_of_ble_eq_true rfl) (Nat.le_of_ble_eq_true rfl) dd_J4_append_cf468_0.2.2.2.2.2.1
theorem dd_J5_getValue_6d5f1_0 : dk_R cJ5_getValue_6d5f1 [(0, .aload_n 0, 1), (1, .getfield 15, 3), (4, .areturn, 1)] := dk_use _ _ (by decide +kernel)
def fJ5_getValue_6d5f1  : Option (Unit) := some ()
abbrev hJ5_getValue_6d5f1 : Cond := .code yJ5_getValue_6d5f1 cJ5_getValue_6d5f1 1 (some (.array .byte))
theorem mJ5_getValue_6d5f1 : yM yJ5_getValue_6d5f1 hJ5_getValue_6d5f1 0 := ⟨u_1051, u_75, by decide +kernel, by decide +kernel, by decide +kernel⟩
set_option maxHeartbeats 4000000 in
set_option maxRecDepth 100000 in
theorem kJ5_getValue_6d5f1 (l : Launch) (D : va_G) (cy : Nat → ClassId) (h : Nat) (hv : Nat) (hc : Int32) {res : Unit} (hR : fJ5_getValue_6d5f1  = some res) : YM l D cy yJ5_getValue_6d5f1 hJ5_getValue_6d5f1 1 0 0 [.ref h] [[(h, .inr (1, [.ref hv, .int 0, .int 0, .int hc]))]] (fun v u => v = some (.ref hv) ∧ u = [[(h, .inr (1, [.ref hv, .int 0, .int 0, .int hc]))]]) := by
  unfold fJ5_getValue_6d5f1 at hR
  refine YM.ofA (cc := cJ5_getValue_6d5f1) (maxL := 1) (ret := (some (.array .byte))) (by decide +kernel) rfl (Nat.le_of_ble_eq_true rfl) [(0, .ref h)] rfl (.array .byte) rfl (Or.inr ⟨_, rfl⟩) (fun p e s m args below meth c A H0 Q C hnm ret => ?_)
  refine xr_aload_n (n := 1) (j := 0) C dd_J5_getValue_6d5f1_0.1 rfl rfl ?_
  refine xr_get (n := 4) C 0 rfl rfl 0 (by decide) in_J4 u_925 rfl (v := .ref hv) rfl dd_J5_getValue_6d5f1_0.2.1 rfl ?_
  obtain rfl := Option.some.inj hR
  exact ret hv ⟨rfl, rfl⟩ (Nat.le_of_ble_eq_true rfl) (Nat.le_of_ble_eq_true rfl) dd_J5_getValue_6d5f1_0.2.2.1
theorem dd_J5_length_8abf5_0 : dk_R cJ5_length_8abf5 [(0, .aload_n 0, 1), (1, .getfield 79, 3), (4, .ireturn, 1)] := dk_use _ _ (by decide +kernel)
def fJ5_length_8abf5 (hc : Int32) : Option (Int32) := some hc
abbrev hJ5_length_8abf5 : Cond := .code yJ5_length_8abf5 cJ5_length_8abf5 1 (some .int)
theorem mJ5_length_8abf5 : yM yJ5_length_8abf5 hJ5_length_8abf5 0 := ⟨u_1059, u_75, by decide +kernel, by decide +kernel, by decide +kernel⟩
set_option maxHeartbeats 4000000 in
set_option maxRecDepth 100000 in
theorem kJ5_length_8abf5 (l : Launch) (D : va_G) (cy : Nat → ClassId) (h : Nat) (hv : Nat) (hc : Int32) {res : Int32} (hR : fJ5_length_8abf5 hc = some res) : YM l D cy yJ5_length_8abf5 hJ5_length_8abf5 1 0 0 [.ref h] [[(h, .inr (1, [.ref hv, .int 0, .int 0, .int hc]))]] (fun v u => v = some (.int res) ∧ u = [[(h, .inr (1, [.ref hv, .int 0, .int 0, .int hc]))]]) := by
  unfold fJ5_length_8abf5 at hR
  refine YM.ofI (cc := cJ5_length_8abf5) (maxL := 1) (ret := (some .int)) (by decide +kernel) rfl (Nat.le_of_ble_eq_true rfl) [(0, .ref h)] rfl rfl (fun p e s m args below meth c A H0 Q C hnm ret => ?_)
  refine xr_aload_n (n := 1) (j := 0) C dd_J5_length_8abf5_0.1 rfl rfl ?_
  refine xr_get (n := 4) C 0 rfl rfl 3 (by decide) in_J4 u_928 rfl (v := .int hc) rfl dd_J5_length_8abf5_0.2.1 rfl ?_
  obtain rfl := Option.some.inj hR
  exact ret hc ⟨rfl, rfl⟩ (Nat.le_of_ble_eq_true rfl) (Nat.le_of_ble_eq_true rfl) dd_J5_length_8abf5_0.2.2.1
theorem dd_J4_length_8abf5_0 : dk_R cJ4_length_8abf5 [(0, .aload_n 0, 1), (1, .invokespecial 343, 3), (4, .ireturn, 1)] := dk_use _ _ (by decide +kernel)
def fJ4_length_8abf5 (hc : Int32) : Option (Int32) := ((fJ5_length_8abf5 hc).bind fun x_1 => some x_1)
abbrev hJ4_length_8abf5 : Cond := .code yJ4_length_8abf5 cJ4_length_8abf5 1 (some .int)
theorem mJ4_length_8abf5 : yM yJ4_length_8abf5 hJ4_length_8abf5 0 := ⟨u_1057, u_76, by decide +kernel, by decide +kernel, by decide +kernel⟩
set_option maxHeartbeats 4000000 in
set_option maxRecDepth 100000 in
theorem kJ4_length_8abf5 (l : Launch) (D : va_G) (cy : Nat → ClassId) (h : Nat) (hv : Nat) (hc : Int32) {res : Int32} (hR : fJ4_length_8abf5 hc = some res) : YM l D cy yJ4_length_8abf5 hJ4_length_8abf5 2 0 0 [.ref h] [[(h, .inr (1, [.ref hv, .int 0, .int 0, .int hc]))]] (fun v u => v = some (.int res) ∧ u = [[(h, .inr (1, [.ref hv, .int 0, .int 0, .int hc]))]]) := by
  unfold fJ4_length_8abf5 at hR
  refine YM.ofI (cc := cJ4_length_8abf5) (maxL := 1) (ret := (some .int)) (by decide +kernel) rfl (Nat.le_of_ble_eq_true rfl) [(0, .ref h)] rfl rfl (fun p e s m args below meth c A H0 Q C hnm ret => ?_)
  refine xr_aload_n (n := 1) (j := 0) C dd_J4_length_8abf5_0.1 rfl rfl ?_
  obtain ⟨x_1, hx_1, hR⟩ := yf_b hR
  refine xr_callSUp (n := 4) (As := []) (rest := []) C (kJ5_length_8abf5 l D cy (h := h) (hv := hv) (hc := hc) hx_1) mJ5_length_8abf5 u_1058 u_1053 u_1054 u_937 (by decide +kernel) 0 rfl rfl 1 [0] [] rfl (by decide +kernel) rfl rfl rfl rfl (Nat.le_of_ble_eq_true rfl) (Nat.le_of_ble_eq_true rfl) (Nat.le_of_ble_eq_true rfl) (Nat.le_of_ble_eq_true rfl) (Nat.le_of_ble_eq_true rfl) dd_J4_length_8abf5_0.2.1 rfl (fun _ _ hp => hp.2) (fun v_2 hp_4 => ?_)
  obtain ⟨rfl, -⟩ := hp_4
  refine xr_st (st' := [.int x_1]) rfl ?_
  obtain rfl := Option.some.inj hR
  exact ret x_1 ⟨rfl, rfl⟩ (Nat.le_of_ble_eq_true rfl) (Nat.le_of_ble_eq_true rfl) dd_J4_length_8abf5_0.2.2.1
theorem dd_J7_checkLength_df160_0 : dk_R cJ7_checkLength_df160 [(0, .iload_n 1, 1), (1, .iload_n 0, 1), (2, .if_icmp .ge 35, 3), (5, .new 43, 3), (8, .dup, 1), (9, .new 45, 3), (12, .dup, 1), (13, .invokespecial 47, 3), (16, .iload_n 0, 1), (17, .invokevirtual 54, 3), (20, .ldc_w 337, 3), (23, .invokevirtual 50, 3), (26, .iload_n 1, 1), (27, .invokevirtual 54, 3), (30, .invokevirtual 61, 3), (33, .invokespecial 65, 3)] := dk_use _ _ (by decide +kernel)
theorem dd_J7_checkLength_df160_1 : dk_R cJ7_checkLength_df160 [(36, .athrow, 1), (37, .return_, 1)] := dk_use _ _ (by decide +kernel)
def fJ7_checkLength_df160 (i1 : Int32) (i2 : Int32) : Option (Unit) := (if i1 ≤ i2 then some () else none)
abbrev hJ7_checkLength_df160 : Cond := .code yJ7_checkLength_df160 cJ7_checkLength_df160 2 none
theorem mJ7_checkLength_df160 : yM yJ7_checkLength_df160 hJ7_checkLength_df160 2 := ⟨u_1069, u_80, by decide +kernel, by decide +kernel, by decide +kernel⟩
set_option maxHeartbeats 4000000 in
set_option maxRecDepth 100000 in
theorem kJ7_checkLength_df160 (l : Launch) (D : va_G) (cy : Nat → ClassId) (i1 : Int32) (i2 : Int32) {res : Unit} (hR : fJ7_checkLength_df160 i1 i2 = some res) : YM l D cy yJ7_checkLength_df160 hJ7_checkLength_df160 1 0 0 [.int i1, .int i2] [] (fun v u => v = none ∧ u = []) := by
  unfold fJ7_checkLength_df160 at hR
  refine YM.ofV (cc := cJ7_checkLength_df160) (maxL := 2) (ret := none) (by decide +kernel) rfl (Nat.le_of_ble_eq_true rfl) [(0, .int i1), (1, .int i2)] rfl rfl (fun p e s m args below meth c A H0 Q C hnm ret => ?_)
  refine xr_iload_n (n := 1) (j := 1) C dd_J7_checkLength_df160_0.1 rfl rfl ?_
  refine xr_iload_n (n := 2) (j := 0) C dd_J7_checkLength_df160_0.2.1 rfl rfl ?_
  refine xr_icmp_ge (tgt := 37) (n := 5) C dd_J7_checkLength_df160_0.2.2.1 rfl rfl (fun c_1 => ?_) (fun c_1 => ?_)
  · replace hR := yf_t c_1 hR
    obtain rfl := Option.some.inj hR
    exact ret ⟨rfl, rfl⟩ (Nat.le_of_ble_eq_true rfl) (Nat.le_of_ble_eq_true rfl) dd_J7_checkLength_df160_1.2.1
  · replace hR := yf_f c_1 hR
    cases hR
theorem dJ7_copyOfRangeByte_39247_10 : decode cJ7_copyOfRangeByte_39247 10 = .ok (.newarray .byte, 2) := by decide +kernel
theorem dd_J7_copyOfRangeByte_39247_0 : dk_R cJ7_copyOfRangeByte_39247 [(0, .iload_n 1, 1), (1, .iload_n 2, 1), (2, .invokestatic 343, 3), (5, .iload_n 2, 1), (6, .iload_n 1, 1), (7, .isub, 1), (8, .istore_n 3, 1), (9, .iload_n 3, 1), (12, .astore 4, 2), (14, .aload_n 0, 1), (15, .iload_n 1, 1), (16, .aload 4, 2), (18, .iconst 0, 1), (19, .aload_n 0, 1), (20, .arraylength, 1), (21, .iload_n 1, 1)] := dk_use _ _ (by decide +kernel)
theorem dd_J7_copyOfRangeByte_39247_1 : dk_R cJ7_copyOfRangeByte_39247 [(22, .isub, 1), (23, .iload_n 3, 1), (24, .invokestatic 304, 3), (27, .invokestatic 150, 3), (30, .aload 4, 2), (32, .areturn, 1)] := dk_use _ _ (by decide +kernel)
def fJ7_copyOfRangeByte_39247 (af : Nat → Int32) (an : Nat) (i1 : Int32) (i2 : Int32) : Option ((Nat → Int32) × Nat) := ((fJ7_checkLength_df160 i1 i2).bind fun x_1 => (if ¬ (i2 - i1) < 0 ∧ (i2 - i1).toNatClampNeg ≤ 16 then (if ¬ i1 < 0 ∧ ¬ (0 : Int32) < 0 ∧ ¬ (xn_min ((nI an) - i1) (i2 - i1)) < 0 ∧ i1.toNatClampNeg + (xn_min ((nI an) - i1) (i2 - i1)).toNatClampNeg ≤ an ∧ (0 : Int32).toNatClampNeg + (xn_min ((nI an) - i1) (i2 - i1)).toNatClampNeg ≤ ((i2 - i1).toNatClampNeg) ∧ ∀ i, i < (xn_min ((nI an) - i1) (i2 - i1)).toNatClampNeg → fits .byte (.int (af (i1.toNatClampNeg + i))) = true then some (va_cpy af (fun _ => 0) i1.toNatClampNeg (0 : Int32).toNatClampNeg (xn_min ((nI an) - i1) (i2 - i1)).toNatClampNeg, (i2 - i1).toNatClampNeg) else none) else none))
abbrev hJ7_copyOfRangeByte_39247 : Cond := .code yJ7_copyOfRangeByte_39247 cJ7_copyOfRangeByte_39247 5 (some (.array .byte))
theorem mJ7_copyOfRangeByte_39247 : yM yJ7_copyOfRangeByte_39247 hJ7_copyOfRangeByte_39247 3 := ⟨u_1066, u_80, by decide +kernel, by decide +kernel, by decide +kernel⟩
set_option maxHeartbeats 4000000 in
set_option maxRecDepth 100000 in
theorem kJ7_copyOfRangeByte_39247 (l : Launch) (D : va_G) (cy : Nat → ClassId) (a : Nat) (af : Nat → Int32) (an : Nat) (i1 : Int32) (i2 : Int32) {res : (Nat → Int32) × Nat} (hR : fJ7_copyOfRangeByte_39247 af an i1 i2 = some res) : YM l D cy yJ7_copyOfRangeByte_39247 hJ7_copyOfRangeByte_39247 2 1 16 [.ref a, .int i1, .int i2] [[(a, .inl (cy 0, an, .inl af))]] (fun v u => ∃ r : Nat, v = some (.ref r) ∧ u = [[(a, .inl (cy 0, an, .inl af))], [(r, .inl (cy 0, res.2, .inl res.1))]]) := by
  unfold fJ7_copyOfRangeByte_39247 at hR
  refine YM.ofA (cc := cJ7_copyOfRangeByte_39247) (maxL := 5) (ret := (some (.array .byte))) (by decide +kernel) rfl (Nat.le_of_ble_eq_true rfl) [(0, .ref a), (1, .int i1), (2, .int i2)] rfl (.array .byte) rfl (Or.inr ⟨_, rfl⟩) (fun p e s m args below meth c A H0 Q C hnm ret => ?_)
  refine xr_iload_n (n := 1) (j := 1) C dd_J7_copyOfRangeByte_39247_0.1 rfl rfl ?_
  refine xr_iload_n (n := 2) (j := 2) C dd_J7_copyOfRangeByte_39247_0.2.1 rfl rfl ?_
  obtain ⟨x_1, hx_1, hR⟩ := yf_b hR
  refine xr_callSp (n := 5) (As := [.int i1, .int i2]) (rest := []) C (kJ7_checkLength_df160 l D cy (i1 := i1) (i2 := i2) hx_1) mJ7_checkLength_df160 u_1067 u_1068 1 [] [0] rfl (by decide +kernel) rfl rfl rfl rfl (Nat.le_of_ble_eq_true rfl) (Nat.le_of_ble_eq_true rfl) (Nat.le_of_ble_eq_true rfl) (Nat.le_of_ble_eq_true rfl) (Nat.le_of_ble_eq_true rfl) dd_J7_copyOfRangeByte_39247_0.2.2.1 rfl (fun _ _ hp => hp.2) (fun v_2 hp_4 => ?_)
  obtain ⟨rfl, -⟩ := hp_4
  refine xr_iload_n (n := 6) (j := 2) C dd_J7_copyOfRangeByte_39247_0.2.2.2.1 rfl rfl ?_
  refine xr_iload_n (n := 7) (j := 1) C dd_J7_copyOfRangeByte_39247_0.2.2.2.2.1 rfl rfl ?_
  refine xr_isub (n := 8) C dd_J7_copyOfRangeByte_39247_0.2.2.2.2.2.1 rfl ?_
  refine xr_istore_n (n := 9) C [(3, .int (i2 - i1)), (0, .ref a), (1, .int i1), (2, .int i2)] dd_J7_copyOfRangeByte_39247_0.2.2.2.2.2.2.1 (by decide) rfl rfl ?_
  refine xr_iload_n (n := 10) (j := 0) C dd_J7_copyOfRangeByte_39247_0.2.2.2.2.2.2.2.1 rfl rfl ?_
  obtain ⟨g_6, hR⟩ := yf_g hR
  refine xr_newab (n := 12) (N' := (i2 - i1).toNatClampNeg) C u_638 g_6.1 rfl g_6.2 (Nat.le_of_ble_eq_true rfl) (Nat.le_of_ble_eq_true rfl) dJ7_copyOfRangeByte_39247_10 rfl (fun q_5 => ?_)
  refine xr_eq (bs' := [[(a, .inl (cy 0, an, .inl af))], [(q_5, .inl (cy 0, (i2 - i1).toNatClampNeg, .inl (fun _ => 0)))]]) rfl ?_
  refine xr_astore (n := 14) C [(4, .ref q_5), (3, .int (i2 - i1)), (0, .ref a), (1, .int i1), (2, .int i2)] dd_J7_copyOfRangeByte_39247_0.2.2.2.2.2.2.2.2.1 (by decide) rfl rfl ?_
  refine xr_aload_n (n := 15) (j := 2) C dd_J7_copyOfRangeByte_39247_0.2.2.2.2.2.2.2.2.2.1 rfl rfl ?_
  refine xr_iload_n (n := 16) (j := 3) C dd_J7_copyOfRangeByte_39247_0.2.2.2.2.2.2.2.2.2.2.1 rfl rfl ?_
  refine xr_aload (n := 18) (j := 0) C dd_J7_copyOfRangeByte_39247_0.2.2.2.2.2.2.2.2.2.2.2.1 rfl rfl ?_
  refine xr_iconst (n := 19) (v := 0) C dd_J7_copyOfRangeByte_39247_0.2.2.2.2.2.2.2.2.2.2.2.2.1 rfl rfl ?_
  refine xr_aload_n (n := 20) (j := 2) C dd_J7_copyOfRangeByte_39247_0.2.2.2.2.2.2.2.2.2.2.2.2.2.1 rfl rfl ?_
  refine xr_alen (n := 21) C 0 0 rfl 0 rfl rfl dd_J7_copyOfRangeByte_39247_0.2.2.2.2.2.2.2.2.2.2.2.2.2.2.1 rfl ?_
  refine xr_iload_n (n := 22) (j := 3) C dd_J7_copyOfRangeByte_39247_0.2.2.2.2.2.2.2.2.2.2.2.2.2.2.2.1 rfl rfl ?_
  refine xr_isub (n := 23) C dd_J7_copyOfRangeByte_39247_1.1 rfl ?_
  refine xr_iload_n (n := 24) (j := 1) C dd_J7_copyOfRangeByte_39247_1.2.1 rfl rfl ?_
  refine xr_mmin (n := 27) C u_977 u_438 u_74 u_439 (Nat.le_of_ble_eq_true rfl) (Nat.le_of_ble_eq_true rfl) (Nat.le_of_ble_eq_true rfl) (Nat.le_of_ble_eq_true rfl) dd_J7_copyOfRangeByte_39247_1.2.2.1 rfl ?_
  obtain ⟨g_7, hR⟩ := yf_g hR
  refine xr_acopyb (n := 30) C u_978 u_980 u_979 u_81 0 rfl rfl 1 rfl rfl g_7.1 g_7.2.1 g_7.2.2.1 g_7.2.2.2.1 g_7.2.2.2.2.1 g_7.2.2.2.2.2 (Nat.le_of_ble_eq_true rfl) (Nat.le_of_ble_eq_true rfl) [[(a, .inl (cy 0, an, .inl af))], [(q_5, .inl (cy 0, (i2 - i1).toNatClampNeg, .inl (va_cpy af (fun _ => 0) i1.toNatClampNeg (0 : Int32).toNatClampNeg (xn_min ((nI an) - i1) (i2 - i1)).toNatClampNeg)))]] rfl dd_J7_copyOfRangeByte_39247_1.2.2.2.1 rfl ?_
  refine xr_aload (n := 32) (j := 0) C dd_J7_copyOfRangeByte_39247_1.2.2.2.2.1 rfl rfl ?_
  obtain rfl := Option.some.inj hR
  exact ret q_5 ⟨q_5, rfl, rfl⟩ (Nat.le_of_ble_eq_true rfl) (Nat.le_of_ble_eq_true rfl) dd_J7_copyOfRangeByte_39247_1.2.2.2.2.2.1
