theorem u_915 : Cond.methodLink RJ5 3 objectInit ∈ yU := yu_tables_1_4 139 (by decide +kernel) (by decide +kernel)
theorem u_916 : Cond.fieldLink RJ5 18 "java/lang/String" "COMPACT_STRINGS" "Z" ∈ yU := yu_tables_1_4 140 (by decide +kernel) (by decide +kernel)
theorem u_638 : Cond.arrayClass .byte ∈ yU := yu_tables_1_3 102 (by decide +kernel) (by decide +kernel)
theorem u_925 : Cond.fieldLink RJ5 15 "java/lang/AbstractStringBuilde\x72" "value" "[B" ∈ yU := yu_tables_1_4 149 (by decide +kernel) (by decide +kernel)
theorem u_926 : Cond.fieldLink RJ5 22 "java/lang/AbstractStringBuilde\x72" "code\x72" "B" ∈ yU := yu_tables_1_4 150 (by decide +kernel) (by decide +kernel)
theorem u_914 : Cond.code yJ5_init_d00df cJ5_init_d00df 2 none ∈ yU := yu_tables_1_4 138 (by decide +kernel) (by decide +kernel)
theorem u_75 : Cond.initialized RJ5 ∈ yU := yu_tables_1_1 19 (by decide +kernel) (by decide +kernel)
theorem u_912 : Cond.methodLink RJ4 1 yJ5_init_d00df ∈ yU := yu_tables_1_4 136 (by decide +kernel) (by decide +kernel)
theorem u_913 : Cond.instanceMethod yJ5_init_d00df ∈ yU := yu_tables_1_4 137 (by decide +kernel) (by decide +kernel)
theorem u_911 : Cond.code yJ4_init_da8c8 cJ4_init_da8c8 1 none ∈ yU := yu_tables_1_4 135 (by decide +kernel) (by decide +kernel)
theorem u_76 : Cond.initialized RJ4 ∈ yU := yu_tables_1_1 20 (by decide +kernel) (by decide +kernel)
theorem u_985 : Cond.code yJ5_isLatin1_aae02 cJ5_isLatin1_aae02 1 (some .boolean) ∈ yU := yu_tables_1_4 209 (by decide +kernel) (by decide +kernel)
theorem u_988 : Cond.code yJ1_canEncode_fc78d cJ1_canEncode_fc78d 1 (some .boolean) ∈ yU := yu_tables_1_4 212 (by decide +kernel) (by decide +kernel)
theorem u_82 : Cond.initialized RJ1 ∈ yU := yu_tables_1_1 26 (by decide +kernel) (by decide +kernel)
theorem u_953 : Cond.code yJ5_ensureCapacityInternal_d00df cJ5_ensureCapacityInternal_d00df 3 none ∈ yU := yu_tables_1_4 177 (by decide +kernel) (by decide +kernel)
theorem u_928 : Cond.fieldLink RJ5 79 "java/lang/AbstractStringBuilde\x72" "count" "I" ∈ yU := yu_tables_1_4 152 (by decide +kernel) (by decide +kernel)
theorem u_950 : Cond.methodLink RJ5 100 yJ5_ensureCapacityInternal_d00df ∈ yU := yu_tables_1_4 174 (by decide +kernel) (by decide +kernel)
theorem u_952 : Cond.instanceMethod yJ5_ensureCapacityInternal_d00df ∈ yU := yu_tables_1_4 176 (by decide +kernel) (by decide +kernel)
theorem u_1599 : Cond.sameMethod RJ5 RJ5 "ensureCapacityInternal" "(I)V" ∈ yU := yu_tables_1_7 103 (by decide +kernel) (by decide +kernel)
theorem u_981 : Cond.methodLink RJ5 83 yJ5_isLatin1_aae02 ∈ yU := yu_tables_1_4 205 (by decide +kernel) (by decide +kernel)
theorem u_982 : Cond.instanceMethod yJ5_isLatin1_aae02 ∈ yU := yu_tables_1_4 206 (by decide +kernel) (by decide +kernel)
theorem u_983 : Cond.sameMethod RJ5 RJ5 "isLatin1" "()Z" ∈ yU := yu_tables_1_4 207 (by decide +kernel) (by decide +kernel)
theorem u_984 : Cond.selects RJ4 yJ5_isLatin1_aae02 yJ5_isLatin1_aae02 ∈ yU := yu_tables_1_4 208 (by decide +kernel) (by decide +kernel)
theorem u_986 : Cond.methodLink RJ5 191 yJ1_canEncode_fc78d ∈ yU := yu_tables_1_4 210 (by decide +kernel) (by decide +kernel)
theorem u_987 : Cond.static yJ1_canEncode_fc78d ∈ yU := yu_tables_1_4 211 (by decide +kernel) (by decide +kernel)
theorem u_949 : Cond.code yJ5_append_3fe6f cJ5_append_3fe6f 2 (some (.object "java/lang/AbstractStringBuilde\x72")) ∈ yU := yu_tables_1_4 173 (by decide +kernel) (by decide +kernel)
theorem dJ5_init_d00df_0 : decode cJ5_init_d00df 0 = .ok (.aload_n 0, 1) := by decide +kernel
theorem dJ5_init_d00df_1 : decode cJ5_init_d00df 1 = .ok (.invokespecial 3, 3) := by decide +kernel
theorem dJ5_init_d00df_4 : decode cJ5_init_d00df 4 = .ok (.getstatic 18, 3) := by decide +kernel
theorem dJ5_init_d00df_7 : decode cJ5_init_d00df 7 = .ok (.ifCond .eq 18, 3) := by decide +kernel
theorem dJ5_init_d00df_10 : decode cJ5_init_d00df 10 = .ok (.aload_n 0, 1) := by decide +kernel
theorem dJ5_init_d00df_11 : decode cJ5_init_d00df 11 = .ok (.iload_n 1, 1) := by decide +kernel
theorem dJ5_init_d00df_12 : decode cJ5_init_d00df 12 = .ok (.newarray .byte, 2) := by decide +kernel
theorem dJ5_init_d00df_14 : decode cJ5_init_d00df 14 = .ok (.putfield 15, 3) := by decide +kernel
theorem dJ5_init_d00df_17 : decode cJ5_init_d00df 17 = .ok (.aload_n 0, 1) := by decide +kernel
theorem dJ5_init_d00df_18 : decode cJ5_init_d00df 18 = .ok (.iconst 0, 1) := by decide +kernel
theorem dJ5_init_d00df_19 : decode cJ5_init_d00df 19 = .ok (.putfield 22, 3) := by decide +kernel
theorem dJ5_init_d00df_22 : decode cJ5_init_d00df 22 = .ok (.goto 16, 3) := by decide +kernel
theorem dJ5_init_d00df_25 : decode cJ5_init_d00df 25 = .ok (.aload_n 0, 1) := by decide +kernel
theorem dJ5_init_d00df_26 : decode cJ5_init_d00df 26 = .ok (.iload_n 1, 1) := by decide +kernel
theorem dJ5_init_d00df_27 : decode cJ5_init_d00df 27 = .ok (.invokestatic 26, 3) := by decide +kernel
theorem dJ5_init_d00df_30 : decode cJ5_init_d00df 30 = .ok (.putfield 15, 3) := by decide +kernel
theorem dJ5_init_d00df_33 : decode cJ5_init_d00df 33 = .ok (.aload_n 0, 1) := by decide +kernel
theorem dJ5_init_d00df_34 : decode cJ5_init_d00df 34 = .ok (.iconst 1, 1) := by decide +kernel
theorem dJ5_init_d00df_35 : decode cJ5_init_d00df 35 = .ok (.putfield 22, 3) := by decide +kernel
theorem dJ5_init_d00df_38 : decode cJ5_init_d00df 38 = .ok (.return_, 1) := by decide +kernel
def fJ5_init_d00df  : Option (Unit) := some ()
abbrev hJ5_init_d00df : Cond := .code yJ5_init_d00df cJ5_init_d00df 2 none
theorem mJ5_init_d00df : yM yJ5_init_d00df hJ5_init_d00df 1 := ⟨u_914, u_75, by decide +kernel, by decide +kernel, by decide +kernel⟩
set_option maxHeartbeats 4000000 in
set_option maxRecDepth 100000 in
theorem kJ5_init_d00df (l : Launch) (D : va_G) (cy : Nat → ClassId) (h : Nat) {res : Unit} (hR : fJ5_init_d00df  = some res) : YM l D cy yJ5_init_d00df hJ5_init_d00df 1 1 16 [.ref h, .int 16] [[(h, .inr (1, [.null, .int 0, .int 0, .int 0]))]] (fun v u => ∃ hv : Nat, v = none ∧ u = [[(h, .inr (1, [.ref hv, .int 0, .int 0, .int 0]))], [(hv, .inl (cy 0, 16, .inl (fun _ => 0)))]]) := by
  unfold fJ5_init_d00df at hR
  refine YM.ofV (cc := cJ5_init_d00df) (maxL := 2) (ret := none) (by decide +kernel) rfl (Nat.le_of_ble_eq_true rfl) [(0, .ref h), (1, .int 16)] rfl rfl (fun p e s m args below meth c A H0 Q C hnm ret => ?_)
  refine xr_aload_n (n := 1) (j := 0) C dJ5_init_d00df_0 rfl rfl ?_
  refine xr_objInit (n := 4) C u_915 u_90 u_91 (Nat.le_of_ble_eq_true rfl) (Nat.le_of_ble_eq_true rfl) (Nat.le_of_ble_eq_true rfl) dJ5_init_d00df_1 rfl ?_
  refine xr_compact (n := 7) C u_916 dJ5_init_d00df_4 rfl ?_
  refine xr_if_eq (tgt := 25) (n := 10) C dJ5_init_d00df_7 rfl rfl (fun c_1 => absurd c_1 (by decide)) (fun _ => ?_)
  refine xr_aload_n (n := 11) (j := 0) C dJ5_init_d00df_10 rfl rfl ?_
  refine xr_iload_n (n := 12) (j := 1) C dJ5_init_d00df_11 rfl rfl ?_
  refine xr_newab (n := 14) (N' := 16) C u_638 (by decide) (by decide) (by decide) (Nat.le_of_ble_eq_true rfl) (Nat.le_of_ble_eq_true rfl) dJ5_init_d00df_12 rfl (fun q_2 => ?_)
  refine xr_eq (bs' := [[(h, .inr (1, [.null, .int 0, .int 0, .int 0]))], [(q_2, .inl (cy 0, 16, .inl (fun _ => 0)))]]) rfl ?_
  refine xr_put (n := 17) C 0 rfl rfl 0 (by decide) in_J4 tyJ4 tyJ4_ok nmJ4 u_925 rfl rfl rfl rfl (Nat.le_of_ble_eq_true rfl) [[(h, .inr (1, [.ref q_2, .int 0, .int 0, .int 0]))], [(q_2, .inl (cy 0, 16, .inl (fun _ => 0)))]] rfl rfl dJ5_init_d00df_14 ?_
  refine xr_aload_n (n := 18) (j := 0) C dJ5_init_d00df_17 rfl rfl ?_
  refine xr_iconst (n := 19) (v := 0) C dJ5_init_d00df_18 rfl rfl ?_
  refine xr_put (n := 22) C 0 rfl rfl 1 (by decide) in_J4 tyJ4 tyJ4_ok nmJ4 u_926 rfl rfl rfl rfl (Nat.le_of_ble_eq_true rfl) [[(h, .inr (1, [.ref q_2, .int 0, .int 0, .int 0]))], [(q_2, .inl (cy 0, 16, .inl (fun _ => 0)))]] rfl rfl dJ5_init_d00df_19 ?_
  refine xr_goto (tgt := 38) C dJ5_init_d00df_22 rfl ?_
  obtain rfl := Option.some.inj hR
  exact ret ⟨q_2, rfl, rfl⟩ (Nat.le_of_ble_eq_true rfl) (Nat.le_of_ble_eq_true rfl) dJ5_init_d00df_38
theorem dJ4_init_da8c8_0 : decode cJ4_init_da8c8 0 = .ok (.aload_n 0, 1) := by decide +kernel
theorem dJ4_init_da8c8_1 : decode cJ4_init_da8c8 1 = .ok (.bipush 16, 2) := by decide +kernel
theorem dJ4_init_da8c8_3 : decode cJ4_init_da8c8 3 = .ok (.invokespecial 1, 3) := by decide +kernel
theorem dJ4_init_da8c8_6 : decode cJ4_init_da8c8 6 = .ok (.return_, 1) := by decide +kernel
def fJ4_init_da8c8  : Option (Unit) := ((fJ5_init_d00df).bind fun x_1 => some ())
abbrev hJ4_init_da8c8 : Cond := .code yJ4_init_da8c8 cJ4_init_da8c8 1 none
theorem mJ4_init_da8c8 : yM yJ4_init_da8c8 hJ4_init_da8c8 0 := ⟨u_911, u_76, by decide +kernel, by decide +kernel, by decide +kernel⟩
set_option maxHeartbeats 4000000 in
set_option maxRecDepth 100000 in
theorem kJ4_init_da8c8 (l : Launch) (D : va_G) (cy : Nat → ClassId) (h : Nat) {res : Unit} (hR : fJ4_init_da8c8  = some res) : YM l D cy yJ4_init_da8c8 hJ4_init_da8c8 2 1 16 [.ref h] [[(h, .inr (1, [.null, .int 0, .int 0, .int 0]))]] (fun v u => ∃ hv : Nat, v = none ∧ u = [[(h, .inr (1, [.ref hv, .int 0, .int 0, .int 0]))], [(hv, .inl (cy 0, 16, .inl (fun _ => 0)))]]) := by
  unfold fJ4_init_da8c8 at hR
  refine YM.ofV (cc := cJ4_init_da8c8) (maxL := 1) (ret := none) (by decide +kernel) rfl (Nat.le_of_ble_eq_true rfl) [(0, .ref h)] rfl rfl (fun p e s m args below meth c A H0 Q C hnm ret => ?_)
  refine xr_aload_n (n := 1) (j := 0) C dJ4_init_da8c8_0 rfl rfl ?_
  refine xr_bipush (n := 3) (v := 16) C dJ4_init_da8c8_1 rfl rfl ?_
  obtain ⟨x_1, hx_1, hR⟩ := yf_b hR
  refine xr_callI (n := 6) (As := [.int 16]) (rest := []) C (kJ5_init_d00df l D cy (h := h) hx_1) mJ5_init_d00df u_912 u_913 rfl 1 [0] [] rfl (by decide +kernel) rfl rfl rfl rfl (Nat.le_of_ble_eq_true rfl) (Nat.le_of_ble_eq_true rfl) (Nat.le_of_ble_eq_true rfl) (Nat.le_of_ble_eq_true rfl) (Nat.le_of_ble_eq_true rfl) dJ4_init_da8c8_3 rfl (fun v_2 u_3 hp_4 => ?_)
  obtain ⟨q_5, rfl, rfl⟩ := hp_4
  refine xr_perm C 2 [0, 1] [] [[(h, .inr (1, [.ref q_5, .int 0, .int 0, .int 0]))], [(q_5, .inl (cy 0, 16, .inl (fun _ => 0)))]] rfl (by decide +kernel) rfl ?_
  obtain rfl := Option.some.inj hR
  exact ret ⟨q_5, rfl, rfl⟩ (Nat.le_of_ble_eq_true rfl) (Nat.le_of_ble_eq_true rfl) dJ4_init_da8c8_6
theorem dJ5_isLatin1_aae02_0 : decode cJ5_isLatin1_aae02 0 = .ok (.getstatic 18, 3) := by decide +kernel
theorem dJ5_isLatin1_aae02_3 : decode cJ5_isLatin1_aae02 3 = .ok (.ifCond .eq 14, 3) := by decide +kernel
theorem dJ5_isLatin1_aae02_6 : decode cJ5_isLatin1_aae02 6 = .ok (.aload_n 0, 1) := by decide +kernel
theorem dJ5_isLatin1_aae02_7 : decode cJ5_isLatin1_aae02 7 = .ok (.getfield 22, 3) := by decide +kernel
theorem dJ5_isLatin1_aae02_10 : decode cJ5_isLatin1_aae02 10 = .ok (.ifCond .ne 7, 3) := by decide +kernel
theorem dJ5_isLatin1_aae02_13 : decode cJ5_isLatin1_aae02 13 = .ok (.iconst 1, 1) := by decide +kernel
theorem dJ5_isLatin1_aae02_14 : decode cJ5_isLatin1_aae02 14 = .ok (.goto 4, 3) := by decide +kernel
theorem dJ5_isLatin1_aae02_17 : decode cJ5_isLatin1_aae02 17 = .ok (.iconst 0, 1) := by decide +kernel
theorem dJ5_isLatin1_aae02_18 : decode cJ5_isLatin1_aae02 18 = .ok (.ireturn, 1) := by decide +kernel
def fJ5_isLatin1_aae02  : Option (Int32) := some 1
abbrev hJ5_isLatin1_aae02 : Cond := .code yJ5_isLatin1_aae02 cJ5_isLatin1_aae02 1 (some .boolean)
theorem mJ5_isLatin1_aae02 : yM yJ5_isLatin1_aae02 hJ5_isLatin1_aae02 0 := ⟨u_985, u_75, by decide +kernel, by decide +kernel, by decide +kernel⟩
set_option maxHeartbeats 4000000 in
set_option maxRecDepth 100000 in
theorem kJ5_isLatin1_aae02 (l : Launch) (D : va_G) (cy : Nat → ClassId) (h : Nat) (hv : Nat) (hc : Int32) {res : Int32} (hR : fJ5_isLatin1_aae02  = some res) : YM l D cy yJ5_isLatin1_aae02 hJ5_isLatin1_aae02 1 0 0 [.ref h] [[(h, .inr (1, [.ref hv, .int 0, .int 0, .int hc]))]] (fun v u => v = some (.int res) ∧ u = [[(h, .inr (1, [.ref hv, .int 0, .int 0, .int hc]))]]) := by
  unfold fJ5_isLatin1_aae02 at hR
  refine YM.ofZ (cc := cJ5_isLatin1_aae02) (maxL := 1) (ret := (some .boolean)) (by decide +kernel) rfl (Nat.le_of_ble_eq_true rfl) [(0, .ref h)] rfl .boolean rfl (fun p e s m args below meth c A H0 Q C hnm ret => ?_)
  refine xr_compact (n := 3) C u_916 dJ5_isLatin1_aae02_0 rfl ?_
  refine xr_if_eq (tgt := 17) (n := 6) C dJ5_isLatin1_aae02_3 rfl rfl (fun c_1 => absurd c_1 (by decide)) (fun _ => ?_)
  refine xr_aload_n (n := 7) (j := 0) C dJ5_isLatin1_aae02_6 rfl rfl ?_
  refine xr_get (n := 10) C 0 rfl rfl 1 (by decide) in_J4 u_926 rfl (v := .int 0) rfl dJ5_isLatin1_aae02_7 rfl ?_
  refine xr_if_ne (tgt := 17) (n := 13) C dJ5_isLatin1_aae02_10 rfl rfl (fun c_2 => absurd c_2 (by decide)) (fun _ => ?_)
  refine xr_iconst (n := 14) (v := 1) C dJ5_isLatin1_aae02_13 rfl rfl ?_
  refine xr_goto (tgt := 18) C dJ5_isLatin1_aae02_14 rfl ?_
  obtain rfl := Option.some.inj hR
  exact ret 1 (by decide) ⟨rfl, rfl⟩ (Nat.le_of_ble_eq_true rfl) (Nat.le_of_ble_eq_true rfl) dJ5_isLatin1_aae02_18
theorem dJ1_canEncode_fc78d_0 : decode cJ1_canEncode_fc78d 0 = .ok (.iload_n 0, 1) := by decide +kernel
theorem dJ1_canEncode_fc78d_1 : decode cJ1_canEncode_fc78d 1 = .ok (.sipush 255, 3) := by decide +kernel
theorem dJ1_canEncode_fc78d_4 : decode cJ1_canEncode_fc78d 4 = .ok (.if_icmp .gt 7, 3) := by decide +kernel
theorem dJ1_canEncode_fc78d_7 : decode cJ1_canEncode_fc78d 7 = .ok (.iconst 1, 1) := by decide +kernel
theorem dJ1_canEncode_fc78d_8 : decode cJ1_canEncode_fc78d 8 = .ok (.goto 4, 3) := by decide +kernel
theorem dJ1_canEncode_fc78d_11 : decode cJ1_canEncode_fc78d 11 = .ok (.iconst 0, 1) := by decide +kernel
theorem dJ1_canEncode_fc78d_12 : decode cJ1_canEncode_fc78d 12 = .ok (.ireturn, 1) := by decide +kernel
def fJ1_canEncode_fc78d (i1 : Int32) : Option (Int32) := (if 255 < i1 then some 0 else some 1)
abbrev hJ1_canEncode_fc78d : Cond := .code yJ1_canEncode_fc78d cJ1_canEncode_fc78d 1 (some .boolean)
theorem mJ1_canEncode_fc78d : yM yJ1_canEncode_fc78d hJ1_canEncode_fc78d 1 := ⟨u_988, u_82, by decide +kernel, by decide +kernel, by decide +kernel⟩
set_option maxHeartbeats 4000000 in
set_option maxRecDepth 100000 in
theorem kJ1_canEncode_fc78d (l : Launch) (D : va_G) (cy : Nat → ClassId) (i1 : Int32) {res : Int32} (hR : fJ1_canEncode_fc78d i1 = some res) : YM l D cy yJ1_canEncode_fc78d hJ1_canEncode_fc78d 1 0 0 [.int i1] [] (fun v u => v = some (.int res) ∧ u = []) := by
  unfold fJ1_canEncode_fc78d at hR
  refine YM.ofZ (cc := cJ1_canEncode_fc78d) (maxL := 1) (ret := (some .boolean)) (by decide +kernel) rfl (Nat.le_of_ble_eq_true rfl) [(0, .int i1)] rfl .boolean rfl (fun p e s m args below meth c A H0 Q C hnm ret => ?_)
  refine xr_iload_n (n := 1) (j := 0) C dJ1_canEncode_fc78d_0 rfl rfl ?_
  refine xr_sipush (n := 4) (v := 255) C dJ1_canEncode_fc78d_1 rfl rfl ?_
  refine xr_icmp_gt (tgt := 11) (n := 7) C dJ1_canEncode_fc78d_4 rfl rfl (fun c_1 => ?_) (fun c_1 => ?_)
  · replace hR := yf_t c_1 hR
    refine xr_iconst (n := 12) (v := 0) C dJ1_canEncode_fc78d_11 rfl rfl ?_
    obtain rfl := Option.some.inj hR
    exact ret 0 (by decide) ⟨rfl, rfl⟩ (Nat.le_of_ble_eq_true rfl) (Nat.le_of_ble_eq_true rfl) dJ1_canEncode_fc78d_12
  · replace hR := yf_f c_1 hR
    refine xr_iconst (n := 8) (v := 1) C dJ1_canEncode_fc78d_7 rfl rfl ?_
    refine xr_goto (tgt := 12) C dJ1_canEncode_fc78d_8 rfl ?_
    obtain rfl := Option.some.inj hR
    exact ret 1 (by decide) ⟨rfl, rfl⟩ (Nat.le_of_ble_eq_true rfl) (Nat.le_of_ble_eq_true rfl) dJ1_canEncode_fc78d_12
theorem dJ5_ensureCapacityInternal_d00df_0 : decode cJ5_ensureCapacityInternal_d00df 0 = .ok (.aload_n 0, 1) := by decide +kernel
theorem dJ5_ensureCapacityInternal_d00df_1 : decode cJ5_ensureCapacityInternal_d00df 1 = .ok (.getfield 15, 3) := by decide +kernel
theorem dJ5_ensureCapacityInternal_d00df_4 : decode cJ5_ensureCapacityInternal_d00df 4 = .ok (.arraylength, 1) := by decide +kernel
theorem dJ5_ensureCapacityInternal_d00df_5 : decode cJ5_ensureCapacityInternal_d00df 5 = .ok (.aload_n 0, 1) := by decide +kernel
theorem dJ5_ensureCapacityInternal_d00df_6 : decode cJ5_ensureCapacityInternal_d00df 6 = .ok (.getfield 22, 3) := by decide +kernel
theorem dJ5_ensureCapacityInternal_d00df_9 : decode cJ5_ensureCapacityInternal_d00df 9 = .ok (.ishr, 1) := by decide +kernel
theorem dJ5_ensureCapacityInternal_d00df_10 : decode cJ5_ensureCapacityInternal_d00df 10 = .ok (.istore_n 2, 1) := by decide +kernel
theorem dJ5_ensureCapacityInternal_d00df_11 : decode cJ5_ensureCapacityInternal_d00df 11 = .ok (.iload_n 1, 1) := by decide +kernel
theorem dJ5_ensureCapacityInternal_d00df_12 : decode cJ5_ensureCapacityInternal_d00df 12 = .ok (.iload_n 2, 1) := by decide +kernel
theorem dJ5_ensureCapacityInternal_d00df_13 : decode cJ5_ensureCapacityInternal_d00df 13 = .ok (.isub, 1) := by decide +kernel
theorem dJ5_ensureCapacityInternal_d00df_14 : decode cJ5_ensureCapacityInternal_d00df 14 = .ok (.ifCond .le 24, 3) := by decide +kernel
theorem dJ5_ensureCapacityInternal_d00df_17 : decode cJ5_ensureCapacityInternal_d00df 17 = .ok (.aload_n 0, 1) := by decide +kernel
theorem dJ5_ensureCapacityInternal_d00df_18 : decode cJ5_ensureCapacityInternal_d00df 18 = .ok (.aload_n 0, 1) := by decide +kernel
theorem dJ5_ensureCapacityInternal_d00df_19 : decode cJ5_ensureCapacityInternal_d00df 19 = .ok (.getfield 15, 3) := by decide +kernel
theorem dJ5_ensureCapacityInternal_d00df_22 : decode cJ5_ensureCapacityInternal_d00df 22 = .ok (.aload_n 0, 1) := by decide +kernel
theorem dJ5_ensureCapacityInternal_d00df_23 : decode cJ5_ensureCapacityInternal_d00df 23 = .ok (.iload_n 1, 1) := by decide +kernel
theorem dJ5_ensureCapacityInternal_d00df_24 : decode cJ5_ensureCapacityInternal_d00df 24 = .ok (.invokevirtual 104, 3) := by decide +kernel
theorem dJ5_ensureCapacityInternal_d00df_27 : decode cJ5_ensureCapacityInternal_d00df 27 = .ok (.aload_n 0, 1) := by decide +kernel
theorem dJ5_ensureCapacityInternal_d00df_28 : decode cJ5_ensureCapacityInternal_d00df 28 = .ok (.getfield 22, 3) := by decide +kernel
theorem dJ5_ensureCapacityInternal_d00df_31 : decode cJ5_ensureCapacityInternal_d00df 31 = .ok (.ishl, 1) := by decide +kernel
theorem dJ5_ensureCapacityInternal_d00df_32 : decode cJ5_ensureCapacityInternal_d00df 32 = .ok (.invokestatic 108, 3) := by decide +kernel
theorem dJ5_ensureCapacityInternal_d00df_35 : decode cJ5_ensureCapacityInternal_d00df 35 = .ok (.putfield 15, 3) := by decide +kernel
theorem dJ5_ensureCapacityInternal_d00df_38 : decode cJ5_ensureCapacityInternal_d00df 38 = .ok (.return_, 1) := by decide +kernel
def fJ5_ensureCapacityInternal_d00df (hn : Nat) (i1 : Int32) : Option (Unit) := (if (i1 - ((nI hn) >>> ((0 : Int32) &&& 31))) ≤ 0 then some () else none)
abbrev hJ5_ensureCapacityInternal_d00df : Cond := .code yJ5_ensureCapacityInternal_d00df cJ5_ensureCapacityInternal_d00df 3 none
theorem mJ5_ensureCapacityInternal_d00df : yM yJ5_ensureCapacityInternal_d00df hJ5_ensureCapacityInternal_d00df 1 := ⟨u_953, u_75, by decide +kernel, by decide +kernel, by decide +kernel⟩
set_option maxHeartbeats 4000000 in
set_option maxRecDepth 100000 in
theorem kJ5_ensureCapacityInternal_d00df (l : Launch) (D : va_G) (cy : Nat → ClassId) (h : Nat) (hv : Nat) (hc : Int32) (hf : Nat → Int32) (hn : Nat) (i1 : Int32) {res : Unit} (hR : fJ5_ensureCapacityInternal_d00df hn i1 = some res) : YM l D cy yJ5_ensureCapacityInternal_d00df hJ5_ensureCapacityInternal_d00df 1 0 0 [.ref h, .int i1] [[(h, .inr (1, [.ref hv, .int 0, .int 0, .int hc]))], [(hv, .inl (cy 0, hn, .inl hf))]] (fun v u => v = none ∧ u = [[(h, .inr (1, [.ref hv, .int 0, .int 0, .int hc]))], [(hv, .inl (cy 0, hn, .inl hf))]]) := by
  unfold fJ5_ensureCapacityInternal_d00df at hR
  refine YM.ofV (cc := cJ5_ensureCapacityInternal_d00df) (maxL := 3) (ret := none) (by decide +kernel) rfl (Nat.le_of_ble_eq_true rfl) [(0, .ref h), (1, .int i1)] rfl rfl (fun p e s m args below meth c A H0 Q C hnm ret => ?_)
  refine xr_aload_n (n := 1) (j := 0) C dJ5_ensureCapacityInternal_d00df_0 rfl rfl ?_
  refine xr_get (n := 4) C 0 rfl rfl 0 (by decide) in_J4 u_925 rfl (v := .ref hv) rfl dJ5_ensureCapacityInternal_d00df_1 rfl ?_
  refine xr_alen (n := 5) C 1 0 rfl 0 rfl rfl dJ5_ensureCapacityInternal_d00df_4 rfl ?_
  refine xr_aload_n (n := 6) (j := 0) C dJ5_ensureCapacityInternal_d00df_5 rfl rfl ?_
  refine xr_get (n := 9) C 0 rfl rfl 1 (by decide) in_J4 u_926 rfl (v := .int 0) rfl dJ5_ensureCapacityInternal_d00df_6 rfl ?_
  refine xr_ishr (n := 10) C dJ5_ensureCapacityInternal_d00df_9 rfl ?_
  refine xr_istore_n (n := 11) C [(2, .int ((nI hn) >>> ((0 : Int32) &&& 31))), (0, .ref h), (1, .int i1)] dJ5_ensureCapacityInternal_d00df_10 (by decide) rfl rfl ?_
  refine xr_iload_n (n := 12) (j := 2) C dJ5_ensureCapacityInternal_d00df_11 rfl rfl ?_
  refine xr_iload_n (n := 13) (j := 0) C dJ5_ensureCapacityInternal_d00df_12 rfl rfl ?_
  refine xr_isub (n := 14) C dJ5_ensureCapacityInternal_d00df_13 rfl ?_
  refine xr_if_le (tgt := 38) (n := 17) C dJ5_ensureCapacityInternal_d00df_14 rfl rfl (fun c_1 => ?_) (fun c_1 => ?_)
  · replace hR := yf_t c_1 hR
    obtain rfl := Option.some.inj hR
    exact ret ⟨rfl, rfl⟩ (Nat.le_of_ble_eq_true rfl) (Nat.le_of_ble_eq_true rfl) dJ5_ensureCapacityInternal_d00df_38
  · replace hR := yf_f c_1 hR
    cases hR
theorem dJ5_append_3fe6f_0 : decode cJ5_append_3fe6f 0 = .ok (.aload_n 0, 1) := by decide +kernel
theorem dJ5_append_3fe6f_1 : decode cJ5_append_3fe6f 1 = .ok (.aload_n 0, 1) := by decide +kernel
theorem dJ5_append_3fe6f_2 : decode cJ5_append_3fe6f 2 = .ok (.getfield 79, 3) := by decide +kernel
theorem dJ5_append_3fe6f_5 : decode cJ5_append_3fe6f 5 = .ok (.iconst 1, 1) := by decide +kernel
theorem dJ5_append_3fe6f_6 : decode cJ5_append_3fe6f 6 = .ok (.iadd, 1) := by decide +kernel
theorem dJ5_append_3fe6f_7 : decode cJ5_append_3fe6f 7 = .ok (.invokevirtual 100, 3) := by decide +kernel
theorem dJ5_append_3fe6f_10 : decode cJ5_append_3fe6f 10 = .ok (.aload_n 0, 1) := by decide +kernel
theorem dJ5_append_3fe6f_11 : decode cJ5_append_3fe6f 11 = .ok (.invokevirtual 83, 3) := by decide +kernel
theorem dJ5_append_3fe6f_14 : decode cJ5_append_3fe6f 14 = .ok (.ifCond .eq 31, 3) := by decide +kernel
theorem dJ5_append_3fe6f_17 : decode cJ5_append_3fe6f 17 = .ok (.iload_n 1, 1) := by decide +kernel
theorem dJ5_append_3fe6f_18 : decode cJ5_append_3fe6f 18 = .ok (.invokestatic 191, 3) := by decide +kernel
theorem dJ5_append_3fe6f_21 : decode cJ5_append_3fe6f 21 = .ok (.ifCond .eq 24, 3) := by decide +kernel
theorem dJ5_append_3fe6f_24 : decode cJ5_append_3fe6f 24 = .ok (.aload_n 0, 1) := by decide +kernel
theorem dJ5_append_3fe6f_25 : decode cJ5_append_3fe6f 25 = .ok (.getfield 15, 3) := by decide +kernel
theorem dJ5_append_3fe6f_28 : decode cJ5_append_3fe6f 28 = .ok (.aload_n 0, 1) := by decide +kernel
theorem dJ5_append_3fe6f_29 : decode cJ5_append_3fe6f 29 = .ok (.dup, 1) := by decide +kernel
theorem dJ5_append_3fe6f_30 : decode cJ5_append_3fe6f 30 = .ok (.getfield 79, 3) := by decide +kernel
theorem dJ5_append_3fe6f_33 : decode cJ5_append_3fe6f 33 = .ok (.dup_x1, 1) := by decide +kernel
theorem dJ5_append_3fe6f_34 : decode cJ5_append_3fe6f 34 = .ok (.iconst 1, 1) := by decide +kernel
theorem dJ5_append_3fe6f_35 : decode cJ5_append_3fe6f 35 = .ok (.iadd, 1) := by decide +kernel
theorem dJ5_append_3fe6f_36 : decode cJ5_append_3fe6f 36 = .ok (.putfield 79, 3) := by decide +kernel
theorem dJ5_append_3fe6f_39 : decode cJ5_append_3fe6f 39 = .ok (.iload_n 1, 1) := by decide +kernel
theorem dJ5_append_3fe6f_40 : decode cJ5_append_3fe6f 40 = .ok (.i2b, 1) := by decide +kernel
theorem dJ5_append_3fe6f_41 : decode cJ5_append_3fe6f 41 = .ok (.bastore, 1) := by decide +kernel
theorem dJ5_append_3fe6f_42 : decode cJ5_append_3fe6f 42 = .ok (.goto 33, 3) := by decide +kernel
theorem dJ5_append_3fe6f_45 : decode cJ5_append_3fe6f 45 = .ok (.aload_n 0, 1) := by decide +kernel
theorem dJ5_append_3fe6f_46 : decode cJ5_append_3fe6f 46 = .ok (.invokevirtual 83, 3) := by decide +kernel
theorem dJ5_append_3fe6f_49 : decode cJ5_append_3fe6f 49 = .ok (.ifCond .eq 7, 3) := by decide +kernel
theorem dJ5_append_3fe6f_52 : decode cJ5_append_3fe6f 52 = .ok (.aload_n 0, 1) := by decide +kernel
theorem dJ5_append_3fe6f_53 : decode cJ5_append_3fe6f 53 = .ok (.invokevirtual 195, 3) := by decide +kernel
theorem dJ5_append_3fe6f_56 : decode cJ5_append_3fe6f 56 = .ok (.aload_n 0, 1) := by decide +kernel
theorem dJ5_append_3fe6f_57 : decode cJ5_append_3fe6f 57 = .ok (.getfield 15, 3) := by decide +kernel
theorem dJ5_append_3fe6f_60 : decode cJ5_append_3fe6f 60 = .ok (.aload_n 0, 1) := by decide +kernel
theorem dJ5_append_3fe6f_61 : decode cJ5_append_3fe6f 61 = .ok (.dup, 1) := by decide +kernel
theorem dJ5_append_3fe6f_62 : decode cJ5_append_3fe6f 62 = .ok (.getfield 79, 3) := by decide +kernel
theorem dJ5_append_3fe6f_65 : decode cJ5_append_3fe6f 65 = .ok (.dup_x1, 1) := by decide +kernel
theorem dJ5_append_3fe6f_66 : decode cJ5_append_3fe6f 66 = .ok (.iconst 1, 1) := by decide +kernel
theorem dJ5_append_3fe6f_67 : decode cJ5_append_3fe6f 67 = .ok (.iadd, 1) := by decide +kernel
theorem dJ5_append_3fe6f_68 : decode cJ5_append_3fe6f 68 = .ok (.putfield 79, 3) := by decide +kernel
theorem dJ5_append_3fe6f_71 : decode cJ5_append_3fe6f 71 = .ok (.iload_n 1, 1) := by decide +kernel
theorem dJ5_append_3fe6f_72 : decode cJ5_append_3fe6f 72 = .ok (.invokestatic 197, 3) := by decide +kernel
theorem dJ5_append_3fe6f_75 : decode cJ5_append_3fe6f 75 = .ok (.aload_n 0, 1) := by decide +kernel
theorem dJ5_append_3fe6f_76 : decode cJ5_append_3fe6f 76 = .ok (.areturn, 1) := by decide +kernel
def fJ5_append_3fe6f (hc : Int32) (hf : Nat → Int32) (hn : Nat) (i1 : Int32) : Option (Int32 × (Nat → Int32)) := ((fJ5_ensureCapacityInternal_d00df hn (hc + 1)).bind fun x_1 => ((fJ5_isLatin1_aae02).bind fun x_5 => ((fJ1_canEncode_fc78d i1).bind fun x_10 => (if x_10 = 0 then none else (if ¬ (hc < 0 ∨ hn ≤ hc.toNatClampNeg) then some (hc + 1, upd hf hc.toNatClampNeg (vp_nar .byte i1.toInt8.toInt32)) else none)))))
abbrev hJ5_append_3fe6f : Cond := .code yJ5_append_3fe6f cJ5_append_3fe6f 2 (some (.object "java/lang/AbstractStringBuilde\x72"))
theorem mJ5_append_3fe6f : yM yJ5_append_3fe6f hJ5_append_3fe6f 1 := ⟨u_949, u_75, by decide +kernel, by decide +kernel, by decide +kernel⟩
set_option maxHeartbeats 4000000 in
set_option maxRecDepth 100000 in
theorem kJ5_append_3fe6f (l : Launch) (D : va_G) (cy : Nat → ClassId) (h : Nat) (hv : Nat) (hc : Int32) (hf : Nat → Int32) (hn : Nat) (i1 : Int32) {res : Int32 × (Nat → Int32)} (hR : fJ5_append_3fe6f hc hf hn i1 = some res) : YM l D cy yJ5_append_3fe6f hJ5_append_3fe6f 2 0 0 [.ref h, .int i1] [[(h, .inr (1, [.ref hv, .int 0, .int 0, .int hc]))], [(hv, .inl (cy 0, hn, .inl hf))]] (fun v u => v = some (.ref h) ∧ u = [[(h, .inr (1, [.ref hv, .int 0, .int 0, .int res.1]))], [(hv, .inl (cy 0, hn, .inl res.2))]]) := by
  unfold fJ5_append_3fe6f at hR
  refine YM.ofA (cc := cJ5_append_3fe6f) (maxL := 2) (ret := (some (.object "java/lang/AbstractStringBuilde\x72"))) (by decide +kernel) rfl (Nat.le_of_ble_eq_true rfl) [(0, .ref h), (1, .int i1)] rfl (.object "java/lang/AbstractStringBuilde\x72") rfl (Or.inl ⟨_, rfl⟩) (fun p e s m args below meth c A H0 Q C hnm ret => ?_)
  refine xr_aload_n (n := 1) (j := 0) C dJ5_append_3fe6f_0 rfl rfl ?_
  refine xr_aload_n (n := 2) (j := 0) C dJ5_append_3fe6f_1 rfl rfl ?_
  refine xr_get (n := 5) C 0 rfl rfl 3 (by decide) in_J4 u_928 rfl (v := .int hc) rfl dJ5_append_3fe6f_2 rfl ?_
  refine xr_iconst (n := 6) (v := 1) C dJ5_append_3fe6f_5 rfl rfl ?_
  refine xr_iadd (n := 7) C dJ5_append_3fe6f_6 rfl ?_
  obtain ⟨x_1, hx_1, hR⟩ := yf_b hR
  refine xr_callUp (n := 10) (As := [.int (hc + 1)]) (rest := []) C (kJ5_ensureCapacityInternal_d00df l D cy (h := h) (hv := hv) (hc := hc) (hf := hf) (hn := hn) (i1 := hc + 1) hx_1) mJ5_ensureCapacityInternal_d00df u_950 u_952 u_1599 0 rfl rfl (va_any rfl (C.2.2.2.2.2.1.2.2.2.2.2.2 _ (by decide +kernel))) 2 [0, 1] [] rfl (by decide +kernel) rfl rfl rfl rfl (Nat.le_of_ble_eq_true rfl) (Nat.le_of_ble_eq_true rfl) (Nat.le_of_ble_eq_true rfl) (Nat.le_of_ble_eq_true rfl) (Nat.le_of_ble_eq_true rfl) dJ5_append_3fe6f_7 rfl (fun _ _ hp => hp.2) (fun v_2 hp_4 => ?_)
  obtain ⟨rfl, -⟩ := hp_4
  refine xr_aload_n (n := 11) (j := 0) C dJ5_append_3fe6f_10 rfl rfl ?_
  obtain ⟨x_5, hx_5, hR⟩ := yf_b hR
  obtain rfl := Option.some.inj (show some ((1) : Int32) = some x_5 from hx_5)
  refine xr_callUp (n := 14) (As := []) (rest := []) C (kJ5_isLatin1_aae02 l D cy (h := h) (hv := hv) (hc := hc) hx_5) mJ5_isLatin1_aae02 u_981 u_982 u_983 0 rfl rfl (C.2.2.2.2.1 _ u_984) 2 [0] [1] rfl (by decide +kernel) rfl rfl rfl rfl (Nat.le_of_ble_eq_true rfl) (Nat.le_of_ble_eq_true rfl) (Nat.le_of_ble_eq_true rfl) (Nat.le_of_ble_eq_true rfl) (Nat.le_of_ble_eq_true rfl) dJ5_append_3fe6f_11 rfl (fun _ _ hp => hp.2) (fun v_6 hp_8 => ?_)
  obtain ⟨rfl, -⟩ := hp_8
  refine xr_st (st' := [.int 1]) rfl ?_
  refine xr_if_eq (tgt := 45) (n := 17) C dJ5_append_3fe6f_14 rfl rfl (fun c_9 => absurd c_9 (by decide)) (fun _ => ?_)
  refine xr_iload_n (n := 18) (j := 1) C dJ5_append_3fe6f_17 rfl rfl ?_
  obtain ⟨x_10, hx_10, hR⟩ := yf_b hR
  refine xr_callSp (n := 21) (As := [.int i1]) (rest := []) C (kJ1_canEncode_fc78d l D cy (i1 := i1) hx_10) mJ1_canEncode_fc78d u_986 u_987 2 [] [0, 1] rfl (by decide +kernel) rfl rfl rfl rfl (Nat.le_of_ble_eq_true rfl) (Nat.le_of_ble_eq_true rfl) (Nat.le_of_ble_eq_true rfl) (Nat.le_of_ble_eq_true rfl) (Nat.le_of_ble_eq_true rfl) dJ5_append_3fe6f_18 rfl (fun _ _ hp => hp.2) (fun v_11 hp_13 => ?_)
  obtain ⟨rfl, -⟩ := hp_13
  refine xr_st (st' := [.int x_10]) rfl ?_
  refine xr_if_eq (tgt := 45) (n := 24) C dJ5_append_3fe6f_21 rfl rfl (fun c_14 => ?_) (fun c_14 => ?_)
  · replace hR := yf_t c_14 hR
    cases hR
  · replace hR := yf_f c_14 hR
    refine xr_aload_n (n := 25) (j := 0) C dJ5_append_3fe6f_24 rfl rfl ?_
    refine xr_get (n := 28) C 0 rfl rfl 0 (by decide) in_J4 u_925 rfl (v := .ref hv) rfl dJ5_append_3fe6f_25 rfl ?_
    refine xr_aload_n (n := 29) (j := 0) C dJ5_append_3fe6f_28 rfl rfl ?_
    refine xr_dup (n := 30) C dJ5_append_3fe6f_29 rfl rfl ?_
    refine xr_get (n := 33) C 0 rfl rfl 3 (by decide) in_J4 u_928 rfl (v := .int hc) rfl dJ5_append_3fe6f_30 rfl ?_
    refine xr_dup_x1 (n := 34) C dJ5_append_3fe6f_33 rfl rfl rfl ?_
    refine xr_iconst (n := 35) (v := 1) C dJ5_append_3fe6f_34 rfl rfl ?_
    refine xr_iadd (n := 36) C dJ5_append_3fe6f_35 rfl ?_
    refine xr_put (n := 39) C 0 rfl rfl 3 (by decide) in_J4 tyJ4 tyJ4_ok nmJ4 u_928 rfl rfl rfl rfl (Nat.le_of_ble_eq_true rfl) [[(h, .inr (1, [.ref hv, .int 0, .int 0, .int (hc + 1)]))], [(hv, .inl (cy 0, hn, .inl hf))]] rfl rfl dJ5_append_3fe6f_36 ?_
    refine xr_iload_n (n := 40) (j := 1) C dJ5_append_3fe6f_39 rfl rfl ?_
    refine xr_i2b (n := 41) C dJ5_append_3fe6f_40 rfl ?_
    obtain ⟨g_15, hR⟩ := yf_g hR
    refine xr_bast (n := 42) C 1 0 rfl rfl g_15 [[(h, .inr (1, [.ref hv, .int 0, .int 0, .int (hc + 1)]))], [(hv, .inl (cy 0, hn, .inl (upd hf hc.toNatClampNeg (vp_nar .byte i1.toInt8.toInt32))))]] rfl dJ5_append_3fe6f_41 rfl ?_
    refine xr_goto (tgt := 75) C dJ5_append_3fe6f_42 rfl ?_
    refine xr_aload_n (n := 76) (j := 0) C dJ5_append_3fe6f_75 rfl rfl ?_
    obtain rfl := Option.some.inj hR
    exact ret h ⟨rfl, rfl⟩ (Nat.le_of_ble_eq_true rfl) (Nat.le_of_ble_eq_true rfl) dJ5_append_3fe6f_76
