theorem u_915 : Cond.methodLink RJ5 3 objectInit ∈ yU := yu_tables_1_4 139 (by decide +kernel) (by decide +kernel)
theorem u_916 : Cond.fieldLink RJ5 18 "java/lang/String" "COMPACT_STRINGS" "Z" ∈ yU := yu_tables_1_4 140 (by decide +kernel) (by decide +kernel)
theorem u_638 : Cond.arrayClass .byte ∈ yU := yu_tables_1_3 102 (by decide +kernel) (by decide +kernel)
theorem u_925 : Cond.fieldLink RJ5 15 "java/lang/AbstractStringBuilde\x72" "value" "[B" ∈ yU := yu_tables_1_4 149 (by decide +kernel) (by decide +kernel)
theorem u_926 : Cond.fieldLink RJ5 22 "java/lang/AbstractStringBuilde\x72" "code\x72" "B" ∈ yU := yu_tables_1_4 150 (by decide +kernel) (by decide +kernel)
theorem u_914 : Cond.code yJ5_init_d00df cJ5_init_d00df 2 none ∈ yU := yu_tables_1_4 138 (by decide +kernel) (by decide +kernel)
theorem u_75 : Cond.initialized RJ5 ∈ yU := yu_tables_1_1 19 (by decide +kernel) (by decide +kernel)
theorem u_912 : Cond.methodLink RJ4 1 yJ5_init_d00df ∈ yU := yu_tables_1_4 136 (by decide +kernel) (by decide +kernel)
theorem u_913 : Cond.instanceMethod yJ5_init_d00df ∈ yU := yu_tables_1_4 137 (by decide +kernel) (by decide +kernel)
theorem u_911 : Cond.code yJ4_init_da8c8 cJ4_init_da8c8 1 none ∈ yU := yu_tables_1_4 135 (by decide +kernel) (by decide +kernel)
theorem u_76 : Cond.initialized RJ4 ∈ yU := yu_tables_1_1 20 (by decide +kernel) (by decide +kernel)
theorem u_985 : Cond.code yJ5_isLatin1_aae02 cJ5_isLatin1_aae02 1 (some .boolean) ∈ yU := yu_tables_1_4 209 (by decide +kernel) (by decide +kernel)
theorem u_988 : Cond.code yJ1_canEncode_fc78d cJ1_canEncode_fc78d 1 (some .boolean) ∈ yU := yu_tables_1_4 212 (by decide +kernel) (by decide +kernel)
theorem u_82 : Cond.initialized RJ1 ∈ yU := yu_tables_1_1 26 (by decide +kernel) (by decide +kernel)
theorem u_953 : Cond.code yJ5_ensureCapacityInternal_d00df cJ5_ensureCapacityInternal_d00df 3 none ∈ yU := yu_tables_1_4 177 (by decide +kernel) (by decide +kernel)
theorem u_928 : Cond.fieldLink RJ5 79 "java/lang/AbstractStringBuilde\x72" "count" "I" ∈ yU := yu_tables_1_4 152 (by decide +kernel) (by decide +kernel)
theorem u_950 : Cond.methodLink RJ5 100 yJ5_ensureCapacityInternal_d00df ∈ yU := yu_tables_1_4 174 (by decide +kernel) (by decide +kernel)
theorem u_952 : Cond.instanceMethod yJ5_ensureCapacityInternal_d00df ∈ yU := yu_tables_1_4 176 (by decide +kernel) (by decide +kernel)
theorem u_1607 : Cond.sameMethod RJ5 RJ5 "ensureCapacityInternal" "(I)V" ∈ yU := yu_tables_1_7 111 (by decide +kernel) (by decide +kernel)
theorem u_981 : Cond.methodLink RJ5 83 yJ5_isLatin1_aae02 ∈ yU := yu_tables_1_4 205 (by decide +kernel) (by decide +kernel)
theorem u_982 : Cond.instanceMethod yJ5_isLatin1_aae02 ∈ yU := yu_tables_1_4 206 (by decide +kernel) (by decide +kernel)
theorem u_983 : Cond.sameMethod RJ5 RJ5 "isLatin1" "()Z" ∈ yU := yu_tables_1_4 207 (by decide +kernel) (by decide +kernel)
theorem u_984 : Cond.selects RJ4 yJ5_isLatin1_aae02 yJ5_isLatin1_aae02 ∈ yU := yu_tables_1_4 208 (by decide +kernel) (by decide +kernel)
theorem u_986 : Cond.methodLink RJ5 191 yJ1_canEncode_fc78d ∈ yU := yu_tables_1_4 210 (by decide +kernel) (by decide +kernel)
theorem u_987 : Cond.static yJ1_canEncode_fc78d ∈ yU := yu_tables_1_4 211 (by decide +kernel) (by decide +kernel)
theorem u_949 : Cond.code yJ5_append_3fe6f cJ5_append_3fe6f 2 (some (.object "java/lang/AbstractStringBuilde\x72")) ∈ yU := yu_tables_1_4 173 (by decide +kernel) (by decide +kernel)
theorem dJ5_init_d00df_12 : decode cJ5_init_d00df 12 = .ok (.newarray .byte, 2) := by decide +kernel
theorem dd_J5_init_d00df_0 : dk_R cJ5_init_d00df [(0, .aload_n 0, 1), (1, .invokespecial 3, 3), (4, .getstatic 18, 3), (7, .ifCond .eq 18, 3), (10, .aload_n 0, 1), (11, .iload_n 1, 1), (14, .putfield 15, 3), (17, .aload_n 0, 1), (18, .iconst 0, 1), (19, .putfield 22, 3), (22, .goto 16, 3), (25, .aload_n 0, 1), (26, .iload_n 1, 1), (27, .invokestatic 26, 3), (30, .putfield 15, 3), (33, .aload_n 0, 1)] := dk_use _ _ (by decide +kernel)
theorem dd_J5_init_d00df_1 : dk_R cJ5_init_d00df [(34, .iconst 1, 1), (35, .putfield 22, 3), (38, .return_, 1)] := dk_use _ _ (by decide +kernel)
def fJ5_init_d00df  : Option (Unit) := some ()
abbrev hJ5_init_d00df : Cond := .code yJ5_init_d00df cJ5_init_d00df 2 none
theorem mJ5_init_d00df : yM yJ5_init_d00df hJ5_init_d00df 1 := ⟨u_914, u_75, by decide +kernel, by decide +kernel, by decide +kernel⟩
set_option maxHeartbeats 4000000 in
set_option maxRecDepth 100000 in
theorem kJ5_init_d00df (l : Launch) (D : va_G) (cy : Nat → ClassId) (h : Nat) {res : Unit} (hR : fJ5_init_d00df  = some res) : YM l D cy yJ5_init_d00df hJ5_init_d00df 1 1 16 [.ref h, .int 16] [[(h, .inr (1, [.null, .int 0, .int 0, .int 0]))]] (fun v u => ∃ hv : Nat, v = none ∧ u = [[(h, .inr (1, [.ref hv, .int 0, .int 0, .int 0]))], [(hv, .inl (cy 0, 16, .inl (fun _ => 0)))]]) := by
  unfold fJ5_init_d00df at hR
  refine YM.ofV (cc := cJ5_init_d00df) (maxL := 2) (ret := none) (by decide +kernel) rfl (Nat.le_of_ble_eq_true rfl) [(0, .ref h), (1, .int 16)] rfl rfl (fun p e s m args below meth c A H0 Q C hnm ret => ?_)
  refine xr_aload_n (n := 1) (j := 0) C dd_J5_init_d00df_0.1 rfl rfl ?_
  refine xr_objInit (n := 4) C u_915 u_90 u_91 (Nat.le_of_ble_eq_true rfl) (Nat.le_of_ble_eq_true rfl) (Nat.le_of_ble_eq_true rfl) dd_J5_init_d00df_0.2.1 rfl ?_
  refine xr_compact (n := 7) C u_916 dd_J5_init_d00df_0.2.2.1 rfl ?_
  refine xr_if_eq (tgt := 25) (n := 10) C dd_J5_init_d00df_0.2.2.2.1 rfl rfl (fun c_1 => absurd c_1 (by decide)) (fun _ => ?_)
  refine xr_aload_n (n := 11) (j := 0) C dd_J5_init_d00df_0.2.2.2.2.1 rfl rfl ?_
  refine xr_iload_n (n := 12) (j := 1) C dd_J5_init_d00df_0.2.2.2.2.2.1 rfl rfl ?_
  refine xr_newab (n := 14) (N' := 16) C u_638 (by decide) (by decide) (by decide) (Nat.le_of_ble_eq_true rfl) (Nat.le_of_ble_eq_true rfl) dJ5_init_d00df_12 rfl (fun q_2 => ?_)
  refine xr_eq (bs' := [[(h, .inr (1, [.null, .int 0, .int 0, .int 0]))], [(q_2, .inl (cy 0, 16, .inl (fun _ => 0)))]]) rfl ?_
  refine xr_put (n := 17) C 0 rfl rfl 0 (by decide) in_J4 tyJ4 tyJ4_ok nmJ4 u_925 rfl rfl rfl rfl (Nat.le_of_ble_eq_true rfl) [[(h, .inr (1, [.ref q_2, .int 0, .int 0, .int 0]))], [(q_2, .inl (cy 0, 16, .inl (fun _ => 0)))]] rfl rfl dd_J5_init_d00df_0.2.2.2.2.2.2.1 ?_
  refine xr_aload_n (n := 18) (j := 0) C dd_J5_init_d00df_0.2.2.2.2.2.2.2.1 rfl rfl ?_
  refine xr_iconst (n := 19) (v := 0) C dd_J5_init_d00df_0.2.2.2.2.2.2.2.2.1 rfl rfl ?_
  refine xr_put (n := 22) C 0 rfl rfl 1 (by decide) in_J4 tyJ4 tyJ4_ok nmJ4 u_926 rfl rfl rfl rfl (Nat.le_of_ble_eq_true rfl) [[(h, .inr (1, [.ref q_2, .int 0, .int 0, .int 0]))], [(q_2, .inl (cy 0, 16, .inl (fun _ => 0)))]] rfl rfl dd_J5_init_d00df_0.2.2.2.2.2.2.2.2.2.1 ?_
  refine xr_goto (tgt := 38) C dd_J5_init_d00df_0.2.2.2.2.2.2.2.2.2.2.1 rfl ?_
  obtain rfl := Option.some.inj hR
  exact ret ⟨q_2, rfl, rfl⟩ (Nat.le_of_ble_eq_true rfl) (Nat.le_of_ble_eq_true rfl) dd_J5_init_d00df_1.2.2.1
theorem dd_J4_init_da8c8_0 : dk_R cJ4_init_da8c8 [(0, .aload_n 0, 1), (1, .bipush 16, 2), (3, .invokespecial 1, 3), (6, .return_, 1)] := dk_use _ _ (by decide +kernel)
def fJ4_init_da8c8  : Option (Unit) := ((fJ5_init_d00df).bind fun x_1 => some ())
abbrev hJ4_init_da8c8 : Cond := .code yJ4_init_da8c8 cJ4_init_da8c8 1 none
theorem mJ4_init_da8c8 : yM yJ4_init_da8c8 hJ4_init_da8c8 0 := ⟨u_911, u_76, by decide +kernel, by decide +kernel, by decide +kernel⟩
set_option maxHeartbeats 4000000 in
set_option maxRecDepth 100000 in
theorem kJ4_init_da8c8 (l : Launch) (D : va_G) (cy : Nat → ClassId) (h : Nat) {res : Unit} (hR : fJ4_init_da8c8  = some res) : YM l D cy yJ4_init_da8c8 hJ4_init_da8c8 2 1 16 [.ref h] [[(h, .inr (1, [.null, .int 0, .int 0, .int 0]))]] (fun v u => ∃ hv : Nat, v = none ∧ u = [[(h, .inr (1, [.ref hv, .int 0, .int 0, .int 0]))], [(hv, .inl (cy 0, 16, .inl (fun _ => 0)))]]) := by
  unfold fJ4_init_da8c8 at hR
  refine YM.ofV (cc := cJ4_init_da8c8) (maxL := 1) (ret := none) (by decide +kernel) rfl (Nat.le_of_ble_eq_true rfl) [(0, .ref h)] rfl rfl (fun p e s m args below meth c A H0 Q C hnm ret => ?_)
  refine xr_aload_n (n := 1) (j := 0) C dd_J4_init_da8c8_0.1 rfl rfl ?_
  refine xr_bipush (n := 3) (v := 16) C dd_J4_init_da8c8_0.2.1 rfl rfl ?_
  obtain ⟨x_1, hx_1, hR⟩ := yf_b hR
  refine xr_callI (n := 6) (As := [.int 16]) (rest := []) C (kJ5_init_d00df l D cy (h := h) hx_1) mJ5_init_d00df u_912 u_913 rfl 1 [0] [] rfl (by decide +kernel) rfl rfl rfl rfl (Nat.le_of_ble_eq_true rfl) (Nat.le_of_ble_eq_true rfl) (Nat.le_of_ble_eq_true rfl) (Nat.le_of_ble_eq_true rfl) (Nat.le_of_ble_eq_true rfl) dd_J4_init_da8c8_0.2.2.1 rfl (fun v_2 u_3 hp_4 => ?_)
  obtain ⟨q_5, rfl, rfl⟩ := hp_4
  refine xr_perm C 2 [0, 1] [] [[(h, .inr (1, [.ref q_5, .int 0, .int 0, .int 0]))], [(q_5, .inl (cy 0, 16, .inl (fun _ => 0)))]] rfl (by decide +kernel) rfl ?_
  obtain rfl := Option.some.inj hR
  exact ret ⟨q_5, rfl, rfl⟩ (Nat.le_of_ble_eq_true rfl) (Nat.le_of_ble_eq_true rfl) dd_J4_init_da8c8_0.2.2.2.1
theorem dd_J5_isLatin1_aae02_0 : dk_R cJ5_isLatin1_aae02 [(0, .getstatic 18, 3), (3, .ifCond .eq 14, 3), (6, .aload_n 0, 1), (7, .getfield 22, 3), (10, .ifCond .ne 7, 3), (13, .iconst 1, 1), (14, .goto 4, 3), (17, .iconst 0, 1), (18, .ireturn, 1)] := dk_use _ _ (by decide +kernel)
def fJ5_isLatin1_aae02  : Option (Int32) := some 1
abbrev hJ5_isLatin1_aae02 : Cond := .code yJ5_isLatin1_aae02 cJ5_isLatin1_aae02 1 (some .boolean)
theorem mJ5_isLatin1_aae02 : yM yJ5_isLatin1_aae02 hJ5_isLatin1_aae02 0 := ⟨u_985, u_75, by decide +kernel, by decide +kernel, by decide +kernel⟩
set_option maxHeartbeats 4000000 in
set_option maxRecDepth 100000 in
theorem kJ5_isLatin1_aae02 (l : Launch) (D : va_G) (cy : Nat → ClassId) (h : Nat) (hv : Nat) (hc : Int32) {res : Int32} (hR : fJ5_isLatin1_aae02  = some res) : YM l D cy yJ5_isLatin1_aae02 hJ5_isLatin1_aae02 1 0 0 [.ref h] [[(h, .inr (1, [.ref hv, .int 0, .int 0, .int hc]))]] (fun v u => v = some (.int res) ∧ u = [[(h, .inr (1, [.ref hv, .int 0, .int 0, .int hc]))]]) := by
  unfold fJ5_isLatin1_aae02 at hR
  refine YM.ofZ (cc := cJ5_isLatin1_aae02) (maxL := 1) (ret := (some .boolean)) (by decide +kernel) rfl (Nat.le_of_ble_eq_true rfl) [(0, .ref h)] rfl .boolean rfl (fun p e s m args below meth c A H0 Q C hnm ret => ?_)
  refine xr_compact (n := 3) C u_916 dd_J5_isLatin1_aae02_0.1 rfl ?_
  refine xr_if_eq (tgt := 17) (n := 6) C dd_J5_isLatin1_aae02_0.2.1 rfl rfl (fun c_1 => absurd c_1 (by decide)) (fun _ => ?_)
  refine xr_aload_n (n := 7) (j := 0) C dd_J5_isLatin1_aae02_0.2.2.1 rfl rfl ?_
  refine xr_get (n := 10) C 0 rfl rfl 1 (by decide) in_J4 u_926 rfl (v := .int 0) rfl dd_J5_isLatin1_aae02_0.2.2.2.1 rfl ?_
  refine xr_if_ne (tgt := 17) (n := 13) C dd_J5_isLatin1_aae02_0.2.2.2.2.1 rfl rfl (fun c_2 => absurd c_2 (by decide)) (fun _ => ?_)
  refine xr_iconst (n := 14) (v := 1) C dd_J5_isLatin1_aae02_0.2.2.2.2.2.1 rfl rfl ?_
  refine xr_goto (tgt := 18) C dd_J5_isLatin1_aae02_0.2.2.2.2.2.2.1 rfl ?_
  obtain rfl := Option.some.inj hR
  exact ret 1 (by decide) ⟨rfl, rfl⟩ (Nat.le_of_ble_eq_true rfl) (Nat.le_of_ble_eq_true rfl) dd_J5_isLatin1_aae02_0.2.2.2.2.2.2.2.2.1
theorem dd_J1_canEncode_fc78d_0 : dk_R cJ1_canEncode_fc78d [(0, .iload_n 0, 1), (1, .sipush 255, 3), (4, .if_icmp .gt 7, 3), (7, .iconst 1, 1), (8, .goto 4, 3), (11, .iconst 0, 1), (12, .ireturn, 1)] := dk_use _ _ (by decide +kernel)
def fJ1_canEncode_fc78d (i1 : Int32) : Option (Int32) := (if 255 < i1 then some 0 else some 1)
abbrev hJ1_canEncode_fc78d : Cond := .code yJ1_canEncode_fc78d cJ1_canEncode_fc78d 1 (some .boolean)
theorem mJ1_canEncode_fc78d : yM yJ1_canEncode_fc78d hJ1_canEncode_fc78d 1 := ⟨u_988, u_82, by decide +kernel, by decide +kernel, by decide +kernel⟩
set_option maxHeartbeats 4000000 in
set_option maxRecDepth 100000 in
theorem kJ1_canEncode_fc78d (l : Launch) (D : va_G) (cy : Nat → ClassId) (i1 : Int32) {res : Int32} (hR : fJ1_canEncode_fc78d i1 = some res) : YM l D cy yJ1_canEncode_fc78d hJ1_canEncode_fc78d 1 0 0 [.int i1] [] (fun v u => v = some (.int res) ∧ u = []) := by
  unfold fJ1_canEncode_fc78d at hR
  refine YM.ofZ (cc := cJ1_canEncode_fc78d) (maxL := 1) (ret := (some .boolean)) (by decide +kernel) rfl (Nat.le_of_ble_eq_true rfl) [(0, .int i1)] rfl .boolean rfl (fun p e s m args below meth c A H0 Q C hnm ret => ?_)
  refine xr_iload_n (n := 1) (j := 0) C dd_J1_canEncode_fc78d_0.1 rfl rfl ?_
  refine xr_sipush (n := 4) (v := 255) C dd_J1_canEncode_fc78d_0.2.1 rfl rfl ?_
  refine xr_icmp_gt (tgt := 11) (n := 7) C dd_J1_canEncode_fc78d_0.2.2.1 rfl rfl (fun c_1 => ?_) (fun c_1 => ?_)
  · replace hR := yf_t c_1 hR
    refine xr_iconst (n := 12) (v := 0) C dd_J1_canEncode_fc78d_0.2.2.2.2.2.1 rfl rfl ?_
    obtain rfl := Option.some.inj hR
    exact ret 0 (by decide) ⟨rfl, rfl⟩ (Nat.le_of_ble_eq_true rfl) (Nat.le_of_ble_eq_true rfl) dd_J1_canEncode_fc78d_0.2.2.2.2.2.2.1
  · replace hR := yf_f c_1 hR
    refine xr_iconst (n := 8) (v := 1) C dd_J1_canEncode_fc78d_0.2.2.2.1 rfl rfl ?_
    refine xr_goto (tgt := 12) C dd_J1_canEncode_fc78d_0.2.2.2.2.1 rfl ?_
    obtain rfl := Option.some.inj hR
    exact ret 1 (by decide) ⟨rfl, rfl⟩ (Nat.le_of_ble_eq_true rfl) (Nat.le_of_ble_eq_true rfl) dd_J1_canEncode_fc78d_0.2.2.2.2.2.2.1
theorem dd_J5_ensureCapacityInternal_d00df_0 : dk_R cJ5_ensureCapacityInternal_d00df [(0, .aload_n 0, 1), (1, .getfield 15, 3), (4, .arraylength, 1), (5, .aload_n 0, 1), (6, .getfield 22, 3), (9, .ishr, 1), (10, .istore_n 2, 1), (11, .iload_n 1, 1), (12, .iload_n 2, 1), (13, .isub, 1), (14, .ifCond .le 24, 3), (17, .aload_n 0, 1), (18, .aload_n 0, 1), (19, .getfield 15, 3), (22, .aload_n 0, 1), (23, .iload_n 1, 1)] := dk_use _ _ (by decide +kernel)
theorem dd_J5_ensureCapacityInternal_d00df_1 : dk_R cJ5_ensureCapacityInternal_d00df [(24, .invokevirtual 104, 3), (27, .aload_n 0, 1), (28, .getfield 22, 3), (31, .ishl, 1), (32, .invokestatic 108, 3), (35, .putfield 15, 3), (38, .return_, 1)] := dk_use _ _ (by decide +kernel)
def fJ5_ensureCapacityInternal_d00df (hn : Nat) (i1 : Int32) : Option (Unit) := (if (i1 - ((nI hn) >>> ((0 : Int32) &&& 31))) ≤ 0 then some () else none)
abbrev hJ5_ensureCapacityInternal_d00df : Cond := .code yJ5_ensureCapacityInternal_d00df cJ5_ensureCapacityInternal_d00df 3 none
theorem mJ5_ensureCapacityInternal_d00df : yM yJ5_ensureCapacityInternal_d00df hJ5_ensureCapacityInternal_d00df 1 := ⟨u_953, u_75, by decide +kernel, by decide +kernel, by decide +kernel⟩
set_option maxHeartbeats 4000000 in
set_option maxRecDepth 100000 in
theorem kJ5_ensureCapacityInternal_d00df (l : Launch) (D : va_G) (cy : Nat → ClassId) (h : Nat) (hv : Nat) (hc : Int32) (hf : Nat → Int32) (hn : Nat) (i1 : Int32) {res : Unit} (hR : fJ5_ensureCapacityInternal_d00df hn i1 = some res) : YM l D cy yJ5_ensureCapacityInternal_d00df hJ5_ensureCapacityInternal_d00df 1 0 0 [.ref h, .int i1] [[(h, .inr (1, [.ref hv, .int 0, .int 0, .int hc]))], [(hv, .inl (cy 0, hn, .inl hf))]] (fun v u => v = none ∧ u = [[(h, .inr (1, [.ref hv, .int 0, .int 0, .int hc]))], [(hv, .inl (cy 0, hn, .inl hf))]]) := by
  unfold fJ5_ensureCapacityInternal_d00df at hR
  refine YM.ofV (cc := cJ5_ensureCapacityInternal_d00df) (maxL := 3) (ret := none) (by decide +kernel) rfl (Nat.le_of_ble_eq_true rfl) [(0, .ref h), (1, .int i1)] rfl rfl (fun p e s m args below meth c A H0 Q C hnm ret => ?_)
  refine xr_aload_n (n := 1) (j := 0) C dd_J5_ensureCapacityInternal_d00df_0.1 rfl rfl ?_
  refine xr_get (n := 4) C 0 rfl rfl 0 (by decide) in_J4 u_925 rfl (v := .ref hv) rfl dd_J5_ensureCapacityInternal_d00df_0.2.1 rfl ?_
  refine xr_alen (n := 5) C 1 0 rfl 0 rfl rfl dd_J5_ensureCapacityInternal_d00df_0.2.2.1 rfl ?_
  refine xr_aload_n (n := 6) (j := 0) C dd_J5_ensureCapacityInternal_d00df_0.2.2.2.1 rfl rfl ?_
  refine xr_get (n := 9) C 0 rfl rfl 1 (by decide) in_J4 u_926 rfl (v := .int 0) rfl dd_J5_ensureCapacityInternal_d00df_0.2.2.2.2.1 rfl ?_
  refine xr_ishr (n := 10) C dd_J5_ensureCapacityInternal_d00df_0.2.2.2.2.2.1 rfl ?_
  refine xr_istore_n (n := 11) C [(2, .int ((nI hn) >>> ((0 : Int32) &&& 31))), (0, .ref h), (1, .int i1)] dd_J5_ensureCapacityInternal_d00df_0.2.2.2.2.2.2.1 (by decide) rfl rfl ?_
  refine xr_iload_n (n := 12) (j := 2) C dd_J5_ensureCapacityInternal_d00df_0.2.2.2.2.2.2.2.1 rfl rfl ?_
  refine xr_iload_n (n := 13) (j := 0) C dd_J5_ensureCapacityInternal_d00df_0.2.2.2.2.2.2.2.2.1 rfl rfl ?_
  refine xr_isub (n := 14) C dd_J5_ensureCapacityInternal_d00df_0.2.2.2.2.2.2.2.2.2.1 rfl ?_
  refine xr_if_le (tgt := 38) (n := 17) C dd_J5_ensureCapacityInternal_d00df_0.2.2.2.2.2.2.2.2.2.2.1 rfl rfl (fun c_1 => ?_) (fun c_1 => ?_)
  · replace hR := yf_t c_1 hR
    obtain rfl := Option.some.inj hR
    exact ret ⟨rfl, rfl⟩ (Nat.le_of_ble_eq_true rfl) (Nat.le_of_ble_eq_true rfl) dd_J5_ensureCapacityInternal_d00df_1.2.2.2.2.2.2.1
  · replace hR := yf_f c_1 hR
    cases hR
theorem dd_J5_append_3fe6f_0 : dk_R cJ5_append_3fe6f [(0, .aload_n 0, 1), (1, .aload_n 0, 1), (2, .getfield 79, 3), (5, .iconst 1, 1), (6, .iadd, 1), (7, .invokevirtual 100, 3), (10, .aload_n 0, 1), (11, .invokevirtual 83, 3), (14, .ifCond .eq 31, 3), (17, .iload_n 1, 1), (18, .invokestatic 191, 3), (21, .ifCond .eq 24, 3), (24, .aload_n 0, 1), (25, .getfield 15, 3), (28, .aload_n 0, 1), (29, .dup, 1)] := dk_use _ _ (by decide +kernel)
theorem dd_J5_append_3fe6f_1 : dk_R cJ5_append_3fe6f [(30, .getfield 79, 3), (33, .dup_x1, 1), (34, .iconst 1, 1), (35, .iadd, 1), (36, .putfield 79, 3), (39, .iload_n 1, 1), (40, .i2b, 1), (41, .bastore, 1), (42, .goto 33, 3), (45, .aload_n 0, 1), (46, .invokevirtual 83, 3), (49, .ifCond .eq 7, 3), (52, .aload_n 0, 1), (53, .invokevirtual 195, 3), (56, .aload_n 0, 1), (57, .getfield 15, 3)] := dk_use _ _ (by decide +kernel)
theorem dd_J5_append_3fe6f_2 : dk_R cJ5_append_3fe6f [(60, .aload_n 0, 1), (61, .dup, 1), (62, .getfield 79, 3), (65, .dup_x1, 1), (66, .iconst 1, 1), (67, .iadd, 1), (68, .putfield 79, 3), (71, .iload_n 1, 1), (72, .invokestatic 197, 3), (75, .aload_n 0, 1), (76, .areturn, 1)] := dk_use _ _ (by decide +kernel)
def fJ5_append_3fe6f (hc : Int32) (hf : Nat → Int32) (hn : Nat) (i1 : Int32) : Option (Int32 × (Nat → Int32)) := ((fJ5_ensureCapacityInternal_d00df hn (hc + 1)).bind fun x_1 => ((fJ5_isLatin1_aae02).bind fun x_5 => ((fJ1_canEncode_fc78d i1).bind fun x_10 => (if x_10 = 0 then none else (if ¬ (hc < 0 ∨ hn ≤ hc.toNatClampNeg) then some (hc + 1, upd hf hc.toNatClampNeg (vp_nar .byte i1.toInt8.toInt32)) else none)))))
abbrev hJ5_append_3fe6f : Cond := .code yJ5_append_3fe6f cJ5_append_3fe6f 2 (some (.object "java/lang/AbstractStringBuilde\x72"))
theorem mJ5_append_3fe6f : yM yJ5_append_3fe6f hJ5_append_3fe6f 1 := ⟨u_949, u_75, by decide +kernel, by decide +kernel, by decide +kernel⟩
set_option maxHeartbeats 4000000 in
set_option maxRecDepth 100000 in
theorem kJ5_append_3fe6f (l : Launch) (D : va_G) (cy : Nat → ClassId) (h : Nat) (hv : Nat) (hc : Int32) (hf : Nat → Int32) (hn : Nat) (i1 : Int32) {res : Int32 × (Nat → Int32)} (hR : fJ5_append_3fe6f hc hf hn i1 = some res) : YM l D cy yJ5_append_3fe6f hJ5_append_3fe6f 2 0 0 [.ref h, .int i1] [[(h, .inr (1, [.ref hv, .int 0, .int 0, .int hc]))], [(hv, .inl (cy 0, hn, .inl hf))]] (fun v u => v = some (.ref h) ∧ u = [[(h, .inr (1, [.ref hv, .int 0, .int 0, .int res.1]))], [(hv, .inl (cy 0, hn, .inl res.2))]]) := by
  unfold fJ5_append_3fe6f at hR
  refine YM.ofA (cc := cJ5_append_3fe6f) (maxL := 2) (ret := (some (.object "java/lang/AbstractStringBuilde\x72"))) (by decide +kernel) rfl (Nat.le_of_ble_eq_true rfl) [(0, .ref h), (1, .int i1)] rfl (.object "java/lang/AbstractStringBuilde\x72") rfl (Or.inl ⟨_, rfl⟩) (fun p e s m args below meth c A H0 Q C hnm ret => ?_)
  refine xr_aload_n (n := 1) (j := 0) C dd_J5_append_3fe6f_0.1 rfl rfl ?_
  refine xr_aload_n (n := 2) (j := 0) C dd_J5_append_3fe6f_0.2.1 rfl rfl ?_
  refine xr_get (n := 5) C 0 rfl rfl 3 (by decide) in_J4 u_928 rfl (v := .int hc) rfl dd_J5_append_3fe6f_0.2.2.1 rfl ?_
  refine xr_iconst (n := 6) (v := 1) C dd_J5_append_3fe6f_0.2.2.2.1 rfl rfl ?_
  refine xr_iadd (n := 7) C dd_J5_append_3fe6f_0.2.2.2.2.1 rfl ?_
  obtain ⟨x_1, hx_1, hR⟩ := yf_b hR
  refine xr_callUp (n := 10) (As := [.int (hc + 1)]) (rest := []) C (kJ5_ensureCapacityInternal_d00df l D cy (h := h) (hv := hv) (hc := hc) (hf := hf) (hn := hn) (i1 := hc + 1) hx_1) mJ5_ensureCapacityInternal_d00df u_950 u_952 u_1607 0 rfl rfl (va_any rfl (C.2.2.2.2.2.1.2.2.2.2.2.2 _ (by decide +kernel))) 2 [0, 1] [] rfl (by decide +kernel) rfl rfl rfl rfl (Nat.le_of_ble_eq_true rfl) (Nat.le_of_ble_eq_true rfl) (Nat.le_of_ble_eq_true rfl) (Nat.le_of_ble_eq_true rfl) (Nat.le_of_ble_eq_true rfl) dd_J5_append_3fe6f_0.2.2.2.2.2.1 rfl (fun _ _ hp => hp.2) (fun v_2 hp_4 => ?_)
  obtain ⟨rfl, -⟩ := hp_4
  refine xr_aload_n (n := 11) (j := 0) C dd_J5_append_3fe6f_0.2.2.2.2.2.2.1 rfl rfl ?_
  obtain ⟨x_5, hx_5, hR⟩ := yf_b hR
  obtain rfl := Option.some.inj (show some ((1) : Int32) = some x_5 from hx_5)
  refine xr_callUp (n := 14) (As := []) (rest := []) C (kJ5_isLatin1_aae02 l D cy (h := h) (hv := hv) (hc := hc) hx_5) mJ5_isLatin1_aae02 u_981 u_982 u_983 0 rfl rfl (C.2.2.2.2.1 _ u_984) 2 [0] [1] rfl (by decide +kernel) rfl rfl rfl rfl (Nat.le_of_ble_eq_true rfl) (Nat.le_of_ble_eq_true rfl) (Nat.le_of_ble_eq_true rfl) (Nat.le_of_ble_eq_true rfl) (Nat.le_of_ble_eq_true rfl) dd_J5_append_3fe6f_0.2.2.2.2.2.2.2.1 rfl (fun _ _ hp => hp.2) (fun v_6 hp_8 => ?_)
  obtain ⟨rfl, -⟩ := hp_8
  refine xr_st (st' := [.int 1]) rfl ?_
  refine xr_if_eq (tgt := 45) (n := 17) C dd_J5_append_3fe6f_0.2.2.2.2.2.2.2.2.1 rfl rfl (fun c_9 => absurd c_9 (by decide)) (fun _ => ?_)
  refine xr_iload_n (n := 18) (j := 1) C dd_J5_append_3fe6f_0.2.2.2.2.2.2.2.2.2.1 rfl rfl ?_
  obtain ⟨x_10, hx_10, hR⟩ := yf_b hR
  refine xr_callSp (n := 21) (As := [.int i1]) (rest := []) C (kJ1_canEncode_fc78d l D cy (i1 := i1) hx_10) mJ1_canEncode_fc78d u_986 u_987 2 [] [0, 1] rfl (by decide +kernel) rfl rfl rfl rfl (Nat.le_of_ble_eq_true rfl) (Nat.le_of_ble_eq_true rfl) (Nat.le_of_ble_eq_true rfl) (Nat.le_of_ble_eq_true rfl) (Nat.le_of_ble_eq_true rfl) dd_J5_append_3fe6f_0.2.2.2.2.2.2.2.2.2.2.1 rfl (fun _ _ hp => hp.2) (fun v_11 hp_13 => ?_)
  obtain ⟨rfl, -⟩ := hp_13
  refine xr_st (st' := [.int x_10]) rfl ?_
  refine xr_if_eq (tgt := 45) (n := 24) C dd_J5_append_3fe6f_0.2.2.2.2.2.2.2.2.2.2.2.1 rfl rfl (fun c_14 => ?_) (fun c_14 => ?_)
  · replace hR := yf_t c_14 hR
    cases hR
  · replace hR := yf_f c_14 hR
    refine xr_aload_n (n := 25) (j := 0) C dd_J5_append_3fe6f_0.2.2.2.2.2.2.2.2.2.2.2.2.1 rfl rfl ?_
    refine xr_get (n := 28) C 0 rfl rfl 0 (by decide) in_J4 u_925 rfl (v := .ref hv) rfl dd_J5_append_3fe6f_0.2.2.2.2.2.2.2.2.2.2.2.2.2.1 rfl ?_
    refine xr_aload_n (n := 29) (j := 0) C dd_J5_append_3fe6f_0.2.2.2.2.2.2.2.2.2.2.2.2.2.2.1 rfl rfl ?_
    refine xr_dup (n := 30) C dd_J5_append_3fe6f_0.2.2.2.2.2.2.2.2.2.2.2.2.2.2.2.1 rfl rfl ?_
    refine xr_get (n := 33) C 0 rfl rfl 3 (by decide) in_J4 u_928 rfl (v := .int hc) rfl dd_J5_append_3fe6f_1.1 rfl ?_
    refine xr_dup_x1 (n := 34) C dd_J5_append_3fe6f_1.2.1 rfl rfl rfl ?_
    refine xr_iconst (n := 35) (v := 1) C dd_J5_append_3fe6f_1.2.2.1 rfl rfl ?_
    refine xr_iadd (n := 36) C dd_J5_append_3fe6f_1.2.2.2.1 rfl ?_
    refine xr_put (n := 39) C 0 rfl rfl 3 (by decide) in_J4 tyJ4 tyJ4_ok nmJ4 u_928 rfl rfl rfl rfl (Nat.le_of_ble_eq_true rfl) [[(h, .inr (1, [.ref hv, .int 0, .int 0, .int (hc + 1)]))], [(hv, .inl (cy 0, hn, .inl hf))]] rfl rfl dd_J5_append_3fe6f_1.2.2.2.2.1 ?_
    refine xr_iload_n (n := 40) (j := 1) C dd_J5_append_3fe6f_1.2.2.2.2.2.1 rfl rfl ?_
    refine xr_i2b (n := 41) C dd_J5_append_3fe6f_1.2.2.2.2.2.2.1 rfl ?_
    obtain ⟨g_15, hR⟩ := yf_g hR
    refine xr_bast (n := 42) C 1 0 rfl rfl g_15 [[(h, .inr (1, [.ref hv, .int 0, .int 0, .int (hc + 1)]))], [(hv, .inl (cy 0, hn, .inl (upd hf hc.toNatClampNeg (vp_nar .byte i1.toInt8.toInt32))))]] rfl dd_J5_append_3fe6f_1.2.2.2.2.2.2.2.1 rfl ?_
    refine xr_goto (tgt := 75) C dd_J5_append_3fe6f_1.2.2.2.2.2.2.2.2.1 rfl ?_
    refine xr_aload_n (n := 76) (j := 0) C dd_J5_append_3fe6f_2.2.2.2.2.2.2.2.2.2.1 rfl rfl ?_
    obtain rfl := Option.some.inj hR
    exact ret h ⟨rfl, rfl⟩ (Nat.le_of_ble_eq_true rfl) (Nat.le_of_ble_eq_true rfl) dd_J5_append_3fe6f_2.2.2.2.2.2.2.2.2.2.2.1
