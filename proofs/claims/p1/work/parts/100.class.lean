theorem u_351 : Cond.constant RJ6 265 (1431655765) ∈ yU := yu_tables_1_2 55 (by decide +kernel) (by decide +kernel)
theorem u_352 : Cond.constant RJ6 266 (858993459) ∈ yU := yu_tables_1_2 56 (by decide +kernel) (by decide +kernel)
theorem u_353 : Cond.constant RJ6 267 (252645135) ∈ yU := yu_tables_1_2 57 (by decide +kernel) (by decide +kernel)
theorem u_350 : Cond.code yJ6_bitCount_0f7a4 cJ6_bitCount_0f7a4 1 (some .int) ∈ yU := yu_tables_1_2 54 (by decide +kernel) (by decide +kernel)
theorem u_73 : Cond.initialized RJ6 ∈ yU := yu_tables_1_1 17 (by decide +kernel) (by decide +kernel)
theorem u_104 : Cond.fieldLink RX4 9 "Pulsemesh$Table" "numbers" "[I" ∈ yU := yu_tables_1_1 48 (by decide +kernel) (by decide +kernel)
theorem u_343 : Cond.code yX4_get cX4_get 3 (some .int) ∈ yU := yu_tables_1_2 47 (by decide +kernel) (by decide +kernel)
theorem u_59 : Cond.initialized RX4 ∈ yU := yu_tables_1_1 3 (by decide +kernel) (by decide +kernel)
theorem u_682 : Cond.code yX4_set cX4_set 4 none ∈ yU := yu_tables_1_3 146 (by decide +kernel) (by decide +kernel)
theorem u_650 : Cond.code yX4_fill cX4_fill 3 none ∈ yU := yu_tables_1_3 114 (by decide +kernel) (by decide +kernel)
theorem u_770 : Cond.code yX4_copyFrom cX4_copyFrom 3 none ∈ yU := yu_tables_1_3 234 (by decide +kernel) (by decide +kernel)
theorem u_491 : Cond.code yX0_bitOf cX0_bitOf 2 (some .int) ∈ yU := yu_tables_1_2 195 (by decide +kernel) (by decide +kernel)
theorem u_60 : Cond.initialized RX0 ∈ yU := yu_tables_1_1 4 (by decide +kernel) (by decide +kernel)
theorem dd_J6_bitCount_0f7a4_0 : dk_R cJ6_bitCount_0f7a4 [(0, .iload_n 0, 1), (1, .iload_n 0, 1), (2, .iconst 1, 1), (3, .iushr, 1), (4, .ldc_w 265, 3), (7, .iand, 1), (8, .isub, 1), (9, .istore_n 0, 1), (10, .iload_n 0, 1), (11, .ldc_w 266, 3), (14, .iand, 1), (15, .iload_n 0, 1), (16, .iconst 2, 1), (17, .iushr, 1), (18, .ldc_w 266, 3), (21, .iand, 1)] := dk_use _ _ (by decide +kernel)
theorem dd_J6_bitCount_0f7a4_1 : dk_R cJ6_bitCount_0f7a4 [(22, .iadd, 1), (23, .istore_n 0, 1), (24, .iload_n 0, 1), (25, .iload_n 0, 1), (26, .iconst 4, 1), (27, .iushr, 1), (28, .iadd, 1), (29, .ldc_w 267, 3), (32, .iand, 1), (33, .istore_n 0, 1), (34, .iload_n 0, 1), (35, .iload_n 0, 1), (36, .bipush 8, 2), (38, .iushr, 1), (39, .iadd, 1), (40, .istore_n 0, 1)] := dk_use _ _ (by decide +kernel)
theorem dd_J6_bitCount_0f7a4_2 : dk_R cJ6_bitCount_0f7a4 [(41, .iload_n 0, 1), (42, .iload_n 0, 1), (43, .bipush 16, 2), (45, .iushr, 1), (46, .iadd, 1), (47, .istore_n 0, 1), (48, .iload_n 0, 1), (49, .bipush 63, 2), (51, .iand, 1), (52, .ireturn, 1)] := dk_use _ _ (by decide +kernel)
def fJ6_bitCount_0f7a4 (i1 : Int32) : Option (Int32) := (ylet (i1 - (((i1.toUInt32 >>> ((1 : Int32).toUInt32 &&& Int32.toUInt32 31)).toInt32) &&& 1431655765) : Int32) fun y_1 => (ylet ((y_1 &&& 858993459) + (((y_1.toUInt32 >>> ((2 : Int32).toUInt32 &&& Int32.toUInt32 31)).toInt32) &&& 858993459) : Int32) fun y_2 => (ylet ((y_2 + ((y_2.toUInt32 >>> ((4 : Int32).toUInt32 &&& Int32.toUInt32 31)).toInt32)) &&& 252645135 : Int32) fun y_3 => (ylet (y_3 + ((y_3.toUInt32 >>> ((8 : Int32).toUInt32 &&& Int32.toUInt32 31)).toInt32) : Int32) fun y_4 => (ylet (y_4 + ((y_4.toUInt32 >>> ((16 : Int32).toUInt32 &&& Int32.toUInt32 31)).toInt32) : Int32) fun y_5 => some (y_5 &&& 63))))))
abbrev hJ6_bitCount_0f7a4 : Cond := .code yJ6_bitCount_0f7a4 cJ6_bitCount_0f7a4 1 (some .int)
theorem mJ6_bitCount_0f7a4 : yM yJ6_bitCount_0f7a4 hJ6_bitCount_0f7a4 1 := ⟨u_350, u_73, by decide +kernel, by decide +kernel, by decide +kernel⟩
set_option maxHeartbeats 4000000 in
set_option maxRecDepth 100000 in
theorem kJ6_bitCount_0f7a4 (l : Launch) (D : va_G) (cy : Nat → ClassId) (i1 : Int32) {res : Int32} (hR : fJ6_bitCount_0f7a4 i1 = some res) : YM l D cy yJ6_bitCount_0f7a4 hJ6_bitCount_0f7a4 1 0 0 [.int i1] [] (fun v u => v = some (.int res) ∧ u = []) := by
  unfold fJ6_bitCount_0f7a4 at hR
  refine YM.ofI (cc := cJ6_bitCount_0f7a4) (maxL := 1) (ret := (some .int)) (by decide +kernel) rfl (Nat.le_of_ble_eq_true rfl) [(0, .int i1)] rfl rfl (fun p e s m args below meth c A H0 Q C hnm ret => ?_)
  refine xr_iload_n (n := 1) (j := 0) C dd_J6_bitCount_0f7a4_0.1 rfl rfl ?_
  refine xr_iload_n (n := 2) (j := 0) C dd_J6_bitCount_0f7a4_0.2.1 rfl rfl ?_
  refine xr_iconst (n := 3) (v := 1) C dd_J6_bitCount_0f7a4_0.2.2.1 rfl rfl ?_
  refine xr_iushr (n := 4) C dd_J6_bitCount_0f7a4_0.2.2.2.1 rfl ?_
  refine xr_ldcw (n := 7) (v := 1431655765) C u_351 dd_J6_bitCount_0f7a4_0.2.2.2.2.1 rfl ?_
  refine xr_iand (n := 8) C dd_J6_bitCount_0f7a4_0.2.2.2.2.2.1 rfl ?_
  refine xr_isub (n := 9) C dd_J6_bitCount_0f7a4_0.2.2.2.2.2.2.1 rfl ?_
  obtain ⟨y_1, ey_1, hR⟩ := yf_l hR
  refine xr_topI ey_1 ?_
  refine xr_istore_n (n := 10) C [(0, .int y_1)] dd_J6_bitCount_0f7a4_0.2.2.2.2.2.2.2.1 (by decide) rfl rfl ?_
  refine xr_iload_n (n := 11) (j := 0) C dd_J6_bitCount_0f7a4_0.2.2.2.2.2.2.2.2.1 rfl rfl ?_
  refine xr_ldcw (n := 14) (v := 858993459) C u_352 dd_J6_bitCount_0f7a4_0.2.2.2.2.2.2.2.2.2.1 rfl ?_
  refine xr_iand (n := 15) C dd_J6_bitCount_0f7a4_0.2.2.2.2.2.2.2.2.2.2.1 rfl ?_
  refine xr_iload_n (n := 16) (j := 0) C dd_J6_bitCount_0f7a4_0.2.2.2.2.2.2.2.2.2.2.2.1 rfl rfl ?_
  refine xr_iconst (n := 17) (v := 2) C dd_J6_bitCount_0f7a4_0.2.2.2.2.2.2.2.2.2.2.2.2.1 rfl rfl ?_
  refine xr_iushr (n := 18) C dd_J6_bitCount_0f7a4_0.2.2.2.2.2.2.2.2.2.2.2.2.2.1 rfl ?_
  refine xr_ldcw (n := 21) (v := 858993459) C u_352 dd_J6_bitCount_0f7a4_0.2.2.2.2.2.2.2.2.2.2.2.2.2.2.1 rfl ?_
  refine xr_iand (n := 22) C dd_J6_bitCount_0f7a4_0.2.2.2.2.2.2.2.2.2.2.2.2.2.2.2.1 rfl ?_
  refine xr_iadd (n := 23) C dd_J6_bitCount_0f7a4_1.1 rfl ?_
  obtain ⟨y_2, ey_2, hR⟩ := yf_l hR
  refine xr_topI ey_2 ?_
  refine xr_istore_n (n := 24) C [(0, .int y_2)] dd_J6_bitCount_0f7a4_1.2.1 (by decide) rfl rfl ?_
  refine xr_iload_n (n := 25) (j := 0) C dd_J6_bitCount_0f7a4_1.2.2.1 rfl rfl ?_
  refine xr_iload_n (n := 26) (j := 0) C dd_J6_bitCount_0f7a4_1.2.2.2.1 rfl rfl ?_
  refine xr_iconst (n := 27) (v := 4) C dd_J6_bitCount_0f7a4_1.2.2.2.2.1 rfl rfl ?_
  refine xr_iushr (n := 28) C dd_J6_bitCount_0f7a4_1.2.2.2.2.2.1 rfl ?_
  refine xr_iadd (n := 29) C dd_J6_bitCount_0f7a4_1.2.2.2.2.2.2.1 rfl ?_
  refine xr_ldcw (n := 32) (v := 252645135) C u_353 dd_J6_bitCount_0f7a4_1.2.2.2.2.2.2.2.1 rfl ?_
  refine xr_iand (n := 33) C dd_J6_bitCount_0f7a4_1.2.2.2.2.2.2.2.2.1 rfl ?_
  obtain ⟨y_3, ey_3, hR⟩ := yf_l hR
  refine xr_topI ey_3 ?_
  refine xr_istore_n (n := 34) C [(0, .int y_3)] dd_J6_bitCount_0f7a4_1.2.2.2.2.2.2.2.2.2.1 (by decide) rfl rfl ?_
  refine xr_iload_n (n := 35) (j := 0) C dd_J6_bitCount_0f7a4_1.2.2.2.2.2.2.2.2.2.2.1 rfl rfl ?_
  refine xr_iload_n (n := 36) (j := 0) C dd_J6_bitCount_0f7a4_1.2.2.2.2.2.2.2.2.2.2.2.1 rfl rfl ?_
  refine xr_bipush (n := 38) (v := 8) C dd_J6_bitCount_0f7a4_1.2.2.2.2.2.2.2.2.2.2.2.2.1 rfl rfl ?_
  refine xr_iushr (n := 39) C dd_J6_bitCount_0f7a4_1.2.2.2.2.2.2.2.2.2.2.2.2.2.1 rfl ?_
  refine xr_iadd (n := 40) C dd_J6_bitCount_0f7a4_1.2.2.2.2.2.2.2.2.2.2.2.2.2.2.1 rfl ?_
  obtain ⟨y_4, ey_4, hR⟩ := yf_l hR
  refine xr_topI ey_4 ?_
  refine xr_istore_n (n := 41) C [(0, .int y_4)] dd_J6_bitCount_0f7a4_1.2.2.2.2.2.2.2.2.2.2.2.2.2.2.2.1 (by decide) rfl rfl ?_
  refine xr_iload_n (n := 42) (j := 0) C dd_J6_bitCount_0f7a4_2.1 rfl rfl ?_
  refine xr_iload_n (n := 43) (j := 0) C dd_J6_bitCount_0f7a4_2.2.1 rfl rfl ?_
  refine xr_bipush (n := 45) (v := 16) C dd_J6_bitCount_0f7a4_2.2.2.1 rfl rfl ?_
  refine xr_iushr (n := 46) C dd_J6_bitCount_0f7a4_2.2.2.2.1 rfl ?_
  refine xr_iadd (n := 47) C dd_J6_bitCount_0f7a4_2.2.2.2.2.1 rfl ?_
  obtain ⟨y_5, ey_5, hR⟩ := yf_l hR
  refine xr_topI ey_5 ?_
  refine xr_istore_n (n := 48) C [(0, .int y_5)] dd_J6_bitCount_0f7a4_2.2.2.2.2.2.1 (by decide) rfl rfl ?_
  refine xr_iload_n (n := 49) (j := 0) C dd_J6_bitCount_0f7a4_2.2.2.2.2.2.2.1 rfl rfl ?_
  refine xr_bipush (n := 51) (v := 63) C dd_J6_bitCount_0f7a4_2.2.2.2.2.2.2.2.1 rfl rfl ?_
  refine xr_iand (n := 52) C dd_J6_bitCount_0f7a4_2.2.2.2.2.2.2.2.2.1 rfl ?_
  obtain rfl := Option.some.inj hR
  exact ret (y_5 &&& 63) ⟨rfl, rfl⟩ (Nat.le_of_ble_eq_true rfl) (Nat.le_of_ble_eq_true rfl) dd_J6_bitCount_0f7a4_2.2.2.2.2.2.2.2.2.2.1
theorem dd_X4_get_0 : dk_R cX4_get [(0, .iload_n 1, 1), (1, .ifCond .lt 19, 3), (4, .iload_n 1, 1), (5, .bipush 9, 2), (7, .if_icmp .ge 13, 3), (10, .iload_n 2, 1), (11, .ifCond .lt 9, 3), (14, .iload_n 2, 1), (15, .bipush 9, 2), (17, .if_icmp .lt 5, 3), (20, .iconst 0, 1), (21, .ireturn, 1), (22, .aload_n 0, 1), (23, .getfield 9, 3), (26, .iload_n 1, 1), (27, .bipush 9, 2)] := dk_use _ _ (by decide +kernel)
theorem dd_X4_get_1 : dk_R cX4_get [(29, .imul, 1), (30, .iload_n 2, 1), (31, .iadd, 1), (32, .iaload, 1), (33, .ireturn, 1)] := dk_use _ _ (by decide +kernel)
def fX4_get (hf : Nat → Int32) (row : Int32) (col : Int32) : Option (Int32) := (if row < 0 then some 0 else (if 9 ≤ row then some 0 else (if col < 0 then some 0 else (if col < 9 then (if ¬ (((row * 9) + col) < 0 ∨ 81 ≤ ((row * 9) + col).toNatClampNeg) then some (hf ((row * 9) + col).toNatClampNeg) else none) else some 0))))
abbrev hX4_get : Cond := .code yX4_get cX4_get 3 (some .int)
theorem mX4_get : yM yX4_get hX4_get 2 := ⟨u_343, u_59, by decide +kernel, by decide +kernel, by decide +kernel⟩
set_option maxHeartbeats 4000000 in
set_option maxRecDepth 100000 in
theorem kX4_get (l : Launch) (D : va_G) (cy : Nat → ClassId) (h : Nat) (hn : Nat) (hf : Nat → Int32) (row : Int32) (col : Int32) {res : Int32} (hR : fX4_get hf row col = some res) : YM l D cy yX4_get hX4_get 1 0 0 [.ref h, .int row, .int col] [[(h, .inr (6, [.ref hn]))], [(hn, .inl (cy 1, 81, .inl hf))]] (fun v u => v = some (.int res) ∧ u = [[(h, .inr (6, [.ref hn]))], [(hn, .inl (cy 1, 81, .inl hf))]]) := by
  unfold fX4_get at hR
  refine YM.ofI (cc := cX4_get) (maxL := 3) (ret := (some .int)) (by decide +kernel) rfl (Nat.le_of_ble_eq_true rfl) [(0, .ref h), (1, .int row), (2, .int col)] rfl rfl (fun p e s m args below meth c A H0 Q C hnm ret => ?_)
  refine xr_iload_n (n := 1) (j := 1) C dd_X4_get_0.1 rfl rfl ?_
  refine xr_if_lt (tgt := 20) (n := 4) C dd_X4_get_0.2.1 rfl rfl (fun c_1 => ?_) (fun c_1 => ?_)
  · replace hR := yf_t c_1 hR
    refine xr_iconst (n := 21) (v := 0) C dd_X4_get_0.2.2.2.2.2.2.2.2.2.2.1 rfl rfl ?_
    obtain rfl := Option.some.inj hR
    exact ret 0 ⟨rfl, rfl⟩ (Nat.le_of_ble_eq_true rfl) (Nat.le_of_ble_eq_true rfl) dd_X4_get_0.2.2.2.2.2.2.2.2.2.2.2.1
  · replace hR := yf_f c_1 hR
    refine xr_iload_n (n := 5) (j := 1) C dd_X4_get_0.2.2.1 rfl rfl ?_
    refine xr_bipush (n := 7) (v := 9) C dd_X4_get_0.2.2.2.1 rfl rfl ?_
    refine xr_icmp_ge (tgt := 20) (n := 10) C dd_X4_get_0.2.2.2.2.1 rfl rfl (fun c_2 => ?_) (fun c_2 => ?_)
    · replace hR := yf_t c_2 hR
      refine xr_iconst (n := 21) (v := 0) C dd_X4_get_0.2.2.2.2.2.2.2.2.2.2.1 rfl rfl ?_
      obtain rfl := Option.some.inj hR
      exact ret 0 ⟨rfl, rfl⟩ (Nat.le_of_ble_eq_true rfl) (Nat.le_of_ble_eq_true rfl) dd_X4_get_0.2.2.2.2.2.2.2.2.2.2.2.1
    · replace hR := yf_f c_2 hR
      refine xr_iload_n (n := 11) (j := 2) C dd_X4_get_0.2.2.2.2.2.1 rfl rfl ?_
      refine xr_if_lt (tgt := 20) (n := 14) C dd_X4_get_0.2.2.2.2.2.2.1 rfl rfl (fun c_3 => ?_) (fun c_3 => ?_)
      · replace hR := yf_t c_3 hR
        refine xr_iconst (n := 21) (v := 0) C dd_X4_get_0.2.2.2.2.2.2.2.2.2.2.1 rfl rfl ?_
        obtain rfl := Option.some.inj hR
        exact ret 0 ⟨rfl, rfl⟩ (Nat.le_of_ble_eq_true rfl) (Nat.le_of_ble_eq_true rfl) dd_X4_get_0.2.2.2.2.2.2.2.2.2.2.2.1
      · replace hR := yf_f c_3 hR
        refine xr_iload_n (n := 15) (j := 2) C dd_X4_get_0.2.2.2.2.2.2.2.1 rfl rfl ?_
        refine xr_bipush (n := 17) (v := 9) C dd_X4_get_0.2.2.2.2.2.2.2.2.1 rfl rfl ?_
        refine xr_icmp_lt (tgt := 22) (n := 20) C dd_X4_get_0.2.2.2.2.2.2.2.2.2.1 rfl rfl (fun c_4 => ?_) (fun c_4 => ?_)
        · replace hR := yf_t c_4 hR
          refine xr_aload_n (n := 23) (j := 0) C dd_X4_get_0.2.2.2.2.2.2.2.2.2.2.2.2.1 rfl rfl ?_
          refine xr_get (n := 26) C 0 rfl rfl 0 (by decide) in_X4 u_104 rfl (v := .ref hn) rfl dd_X4_get_0.2.2.2.2.2.2.2.2.2.2.2.2.2.1 rfl ?_
          refine xr_iload_n (n := 27) (j := 1) C dd_X4_get_0.2.2.2.2.2.2.2.2.2.2.2.2.2.2.1 rfl rfl ?_
          refine xr_bipush (n := 29) (v := 9) C dd_X4_get_0.2.2.2.2.2.2.2.2.2.2.2.2.2.2.2.1 rfl rfl ?_
          refine xr_imul (n := 30) C dd_X4_get_1.1 rfl ?_
          refine xr_iload_n (n := 31) (j := 2) C dd_X4_get_1.2.1 rfl rfl ?_
          refine xr_iadd (n := 32) C dd_X4_get_1.2.2.1 rfl ?_
          obtain ⟨g_5, hR⟩ := yf_g hR
          refine xr_iald (n := 33) C 1 0 rfl rfl g_5 dd_X4_get_1.2.2.2.1 rfl ?_
          obtain rfl := Option.some.inj hR
          exact ret (hf ((row * 9) + col).toNatClampNeg) ⟨rfl, rfl⟩ (Nat.le_of_ble_eq_true rfl) (Nat.le_of_ble_eq_true rfl) dd_X4_get_1.2.2.2.2.1
        · replace hR := yf_f c_4 hR
          refine xr_iconst (n := 21) (v := 0) C dd_X4_get_0.2.2.2.2.2.2.2.2.2.2.1 rfl rfl ?_
          obtain rfl := Option.some.inj hR
          exact ret 0 ⟨rfl, rfl⟩ (Nat.le_of_ble_eq_true rfl) (Nat.le_of_ble_eq_true rfl) dd_X4_get_0.2.2.2.2.2.2.2.2.2.2.2.1
theorem dd_X4_set_0 : dk_R cX4_set [(0, .iload_n 1, 1), (1, .ifCond .lt 19, 3), (4, .iload_n 1, 1), (5, .bipush 9, 2), (7, .if_icmp .ge 13, 3), (10, .iload_n 2, 1), (11, .ifCond .lt 9, 3), (14, .iload_n 2, 1), (15, .bipush 9, 2), (17, .if_icmp .lt 4, 3), (20, .return_, 1), (21, .aload_n 0, 1), (22, .getfield 9, 3), (25, .iload_n 1, 1), (26, .bipush 9, 2), (28, .imul, 1)] := dk_use _ _ (by decide +kernel)
theorem dd_X4_set_1 : dk_R cX4_set [(29, .iload_n 2, 1), (30, .iadd, 1), (31, .iload_n 3, 1), (32, .iastore, 1), (33, .return_, 1)] := dk_use _ _ (by decide +kernel)
def fX4_set (hf : Nat → Int32) (row : Int32) (col : Int32) (num : Int32) : Option (Nat → Int32) := (if row < 0 then some hf else (if 9 ≤ row then some hf else (if col < 0 then some hf else (if col < 9 then (if ¬ (((row * 9) + col) < 0 ∨ 81 ≤ ((row * 9) + col).toNatClampNeg) then some (upd hf ((row * 9) + col).toNatClampNeg num) else none) else some hf))))
abbrev hX4_set : Cond := .code yX4_set cX4_set 4 none
theorem mX4_set : yM yX4_set hX4_set 3 := ⟨u_682, u_59, by decide +kernel, by decide +kernel, by decide +kernel⟩
set_option maxHeartbeats 4000000 in
set_option maxRecDepth 100000 in
theorem kX4_set (l : Launch) (D : va_G) (cy : Nat → ClassId) (h : Nat) (hn : Nat) (hf : Nat → Int32) (row : Int32) (col : Int32) (num : Int32) {res : Nat → Int32} (hR : fX4_set hf row col num = some res) : YM l D cy yX4_set hX4_set 1 0 0 [.ref h, .int row, .int col, .int num] [[(h, .inr (6, [.ref hn]))], [(hn, .inl (cy 1, 81, .inl hf))]] (fun v u => v = none ∧ u = [[(h, .inr (6, [.ref hn]))], [(hn, .inl (cy 1, 81, .inl res))]]) := by
  unfold fX4_set at hR
  refine YM.ofV (cc := cX4_set) (maxL := 4) (ret := none) (by decide +kernel) rfl (Nat.le_of_ble_eq_true rfl) [(0, .ref h), (1, .int row), (2, .int col), (3, .int num)] rfl rfl (fun p e s m args below meth c A H0 Q C hnm ret => ?_)
  refine xr_iload_n (n := 1) (j := 1) C dd_X4_set_0.1 rfl rfl ?_
  refine xr_if_lt (tgt := 20) (n := 4) C dd_X4_set_0.2.1 rfl rfl (fun c_1 => ?_) (fun c_1 => ?_)
  · replace hR := yf_t c_1 hR
    obtain rfl := Option.some.inj hR
    exact ret ⟨rfl, rfl⟩ (Nat.le_of_ble_eq_true rfl) (Nat.le_of_ble_eq_true rfl) dd_X4_set_0.2.2.2.2.2.2.2.2.2.2.1
  · replace hR := yf_f c_1 hR
    refine xr_iload_n (n := 5) (j := 1) C dd_X4_set_0.2.2.1 rfl rfl ?_
    refine xr_bipush (n := 7) (v := 9) C dd_X4_set_0.2.2.2.1 rfl rfl ?_
    refine xr_icmp_ge (tgt := 20) (n := 10) C dd_X4_set_0.2.2.2.2.1 rfl rfl (fun c_2 => ?_) (fun c_2 => ?_)
    · replace hR := yf_t c_2 hR
      obtain rfl := Option.some.inj hR
      exact ret ⟨rfl, rfl⟩ (Nat.le_of_ble_eq_true rfl) (Nat.le_of_ble_eq_true rfl) dd_X4_set_0.2.2.2.2.2.2.2.2.2.2.1
    · replace hR := yf_f c_2 hR
      refine xr_iload_n (n := 11) (j := 2) C dd_X4_set_0.2.2.2.2.2.1 rfl rfl ?_
      refine xr_if_lt (tgt := 20) (n := 14) C dd_X4_set_0.2.2.2.2.2.2.1 rfl rfl (fun c_3 => ?_) (fun c_3 => ?_)
      · replace hR := yf_t c_3 hR
        obtain rfl := Option.some.inj hR
        exact ret ⟨rfl, rfl⟩ (Nat.le_of_ble_eq_true rfl) (Nat.le_of_ble_eq_true rfl) dd_X4_set_0.2.2.2.2.2.2.2.2.2.2.1
      · replace hR := yf_f c_3 hR
        refine xr_iload_n (n := 15) (j := 2) C dd_X4_set_0.2.2.2.2.2.2.2.1 rfl rfl ?_
        refine xr_bipush (n := 17) (v := 9) C dd_X4_set_0.2.2.2.2.2.2.2.2.1 rfl rfl ?_
        refine xr_icmp_lt (tgt := 21) (n := 20) C dd_X4_set_0.2.2.2.2.2.2.2.2.2.1 rfl rfl (fun c_4 => ?_) (fun c_4 => ?_)
        · replace hR := yf_t c_4 hR
          refine xr_aload_n (n := 22) (j := 0) C dd_X4_set_0.2.2.2.2.2.2.2.2.2.2.2.1 rfl rfl ?_
          refine xr_get (n := 25) C 0 rfl rfl 0 (by decide) in_X4 u_104 rfl (v := .ref hn) rfl dd_X4_set_0.2.2.2.2.2.2.2.2.2.2.2.2.1 rfl ?_
          refine xr_iload_n (n := 26) (j := 1) C dd_X4_set_0.2.2.2.2.2.2.2.2.2.2.2.2.2.1 rfl rfl ?_
          refine xr_bipush (n := 28) (v := 9) C dd_X4_set_0.2.2.2.2.2.2.2.2.2.2.2.2.2.2.1 rfl rfl ?_
          refine xr_imul (n := 29) C dd_X4_set_0.2.2.2.2.2.2.2.2.2.2.2.2.2.2.2.1 rfl ?_
          refine xr_iload_n (n := 30) (j := 2) C dd_X4_set_1.1 rfl rfl ?_
          refine xr_iadd (n := 31) C dd_X4_set_1.2.1 rfl ?_
          refine xr_iload_n (n := 32) (j := 3) C dd_X4_set_1.2.2.1 rfl rfl ?_
          obtain ⟨g_5, hR⟩ := yf_g hR
          refine xr_iast (n := 33) C 1 0 rfl rfl g_5 [[(h, .inr (6, [.ref hn]))], [(hn, .inl (cy 1, 81, .inl (upd hf ((row * 9) + col).toNatClampNeg num)))]] rfl dd_X4_set_1.2.2.2.1 rfl ?_
          obtain rfl := Option.some.inj hR
          exact ret ⟨rfl, rfl⟩ (Nat.le_of_ble_eq_true rfl) (Nat.le_of_ble_eq_true rfl) dd_X4_set_1.2.2.2.2.1
        · replace hR := yf_f c_4 hR
          obtain rfl := Option.some.inj hR
          exact ret ⟨rfl, rfl⟩ (Nat.le_of_ble_eq_true rfl) (Nat.le_of_ble_eq_true rfl) dd_X4_set_0.2.2.2.2.2.2.2.2.2.2.1
theorem dd_X4_fill_0 : dk_R cX4_fill [(0, .iconst 0, 1), (1, .istore_n 2, 1), (2, .iload_n 2, 1), (3, .aload_n 0, 1), (4, .getfield 9, 3), (7, .arraylength, 1), (8, .if_icmp .ge 16, 3), (11, .aload_n 0, 1), (12, .getfield 9, 3), (15, .iload_n 2, 1), (16, .iload_n 1, 1), (17, .iastore, 1), (18, .iinc 2 1, 3), (21, .goto (-19), 3), (24, .return_, 1)] := dk_use _ _ (by decide +kernel)
def fX4_fill (hf : Nat → Int32) (num : Int32) : Option (Nat → Int32) := ((wl (S := Int32 × (Nat → Int32)) (B := Int32 × (Nat → Int32)) (fun s_1 => (if (nI 81) ≤ s_1.1 then some (.inr (s_1.1, s_1.2)) else (if ¬ (s_1.1 < 0 ∨ 81 ≤ s_1.1.toNatClampNeg) then some (.inl (s_1.1 + 1, upd s_1.2 s_1.1.toNatClampNeg num)) else none))) yFuel (0, hf)).bind fun b_1 => some b_1.2)
abbrev hX4_fill : Cond := .code yX4_fill cX4_fill 3 none
theorem mX4_fill : yM yX4_fill hX4_fill 1 := ⟨u_650, u_59, by decide +kernel, by decide +kernel, by decide +kernel⟩
set_option maxHeartbeats 4000000 in
set_option maxRecDepth 100000 in
theorem kX4_fill (l : Launch) (D : va_G) (cy : Nat → ClassId) (h : Nat) (hn : Nat) (hf : Nat → Int32) (num : Int32) {res : Nat → Int32} (hR : fX4_fill hf num = some res) : YM l D cy yX4_fill hX4_fill 1 0 0 [.ref h, .int num] [[(h, .inr (6, [.ref hn]))], [(hn, .inl (cy 1, 81, .inl hf))]] (fun v u => v = none ∧ u = [[(h, .inr (6, [.ref hn]))], [(hn, .inl (cy 1, 81, .inl res))]]) := by
  unfold fX4_fill at hR
  refine YM.ofV (cc := cX4_fill) (maxL := 3) (ret := none) (by decide +kernel) rfl (Nat.le_of_ble_eq_true rfl) [(0, .ref h), (1, .int num)] rfl rfl (fun p e s m args below meth c A H0 Q C hnm ret => ?_)
  refine xr_iconst (n := 1) (v := 0) C dd_X4_fill_0.1 rfl rfl ?_
  refine xr_istore_n (n := 2) C [(2, .int 0), (0, .ref h), (1, .int num)] dd_X4_fill_0.2.1 (by decide) rfl rfl ?_
  refine xr_lv (lv' := [(0, .ref h), (1, .int num), (2, .int 0)]) [1, 2, 0] rfl ?_
  obtain ⟨b_1, hb_1, hR⟩ := yf_b hR
  have K_1 : X p l e (yR 1 0 0) s m args below meth c D A H0 3 Q [[(h, .inr (6, [.ref hn]))], [(hn, .inl (cy 1, 81, .inl b_1.2))]] 0 0 [] 24 [] := by
    obtain rfl := Option.some.inj hR
    exact ret ⟨rfl, rfl⟩ (Nat.le_of_ble_eq_true rfl) (Nat.le_of_ble_eq_true rfl) dd_X4_fill_0.2.2.2.2.2.2.2.2.2.2.2.2.2.2.1
  refine y_loop (P := fun (s_1 : Int32 × (Nat → Int32)) => X p l e (yR 1 0 0) s m args below meth c D A H0 3 Q [[(h, .inr (6, [.ref hn]))], [(hn, .inl (cy 1, 81, .inl s_1.2))]] 0 0 [(0, .ref h), (1, .int num), (2, .int s_1.1)] 2 []) ?_ _ (0, hf) hb_1
  intro s_1 o_1 ho_1 hk_1 hx_1
  refine xr_iload_n (n := 3) (j := 2) C dd_X4_fill_0.2.2.1 rfl rfl ?_
  refine xr_aload_n (n := 4) (j := 0) C dd_X4_fill_0.2.2.2.1 rfl rfl ?_
  refine xr_get (n := 7) C 0 rfl rfl 0 (by decide) in_X4 u_104 rfl (v := .ref hn) rfl dd_X4_fill_0.2.2.2.2.1 rfl ?_
  refine xr_alen (n := 8) C 1 0 rfl 1 rfl rfl dd_X4_fill_0.2.2.2.2.2.1 rfl ?_
  refine xr_icmp_ge (tgt := 24) (n := 11) C dd_X4_fill_0.2.2.2.2.2.2.1 rfl rfl (fun c_2 => ?_) (fun c_2 => ?_)
  · replace ho_1 := yf_t c_2 ho_1
    refine xr_lv (lv' := []) [] rfl ?_
    have e_3 := hx_1 _ (Option.some.inj ho_1).symm
    subst e_3
    exact K_1
  · replace ho_1 := yf_f c_2 ho_1
    refine xr_aload_n (n := 12) (j := 0) C dd_X4_fill_0.2.2.2.2.2.2.2.1 rfl rfl ?_
    refine xr_get (n := 15) C 0 rfl rfl 0 (by decide) in_X4 u_104 rfl (v := .ref hn) rfl dd_X4_fill_0.2.2.2.2.2.2.2.2.1 rfl ?_
    refine xr_iload_n (n := 16) (j := 2) C dd_X4_fill_0.2.2.2.2.2.2.2.2.2.1 rfl rfl ?_
    refine xr_iload_n (n := 17) (j := 1) C dd_X4_fill_0.2.2.2.2.2.2.2.2.2.2.1 rfl rfl ?_
    obtain ⟨g_4, ho_1⟩ := yf_g ho_1
    refine xr_iast (n := 18) C 1 0 rfl rfl g_4 [[(h, .inr (6, [.ref hn]))], [(hn, .inl (cy 1, 81, .inl (upd s_1.2 s_1.1.toNatClampNeg num)))]] rfl dd_X4_fill_0.2.2.2.2.2.2.2.2.2.2.2.1 rfl ?_
    refine xr_iinc (j := 2) (v := s_1.1 + 1) (n := 21) C [(2, .int (s_1.1 + 1)), (0, .ref h), (1, .int num)] dd_X4_fill_0.2.2.2.2.2.2.2.2.2.2.2.2.1 rfl rfl (by decide) rfl rfl ?_
    refine xr_goto (tgt := 2) C dd_X4_fill_0.2.2.2.2.2.2.2.2.2.2.2.2.2.1 rfl ?_
    refine xr_lv (lv' := [(0, .ref h), (1, .int num), (2, .int (s_1.1 + 1))]) [1, 2, 0] rfl ?_
    exact hk_1 (s_1.1 + 1, upd s_1.2 s_1.1.toNatClampNeg num) (Option.some.inj ho_1).symm
theorem dd_X4_copyFrom_0 : dk_R cX4_copyFrom [(0, .iconst 0, 1), (1, .istore_n 2, 1), (2, .iload_n 2, 1), (3, .aload_n 0, 1), (4, .getfield 9, 3), (7, .arraylength, 1), (8, .if_icmp .ge 30, 3), (11, .iload_n 2, 1), (12, .aload_n 1, 1), (13, .getfield 9, 3), (16, .arraylength, 1), (17, .if_icmp .ge 21, 3), (20, .aload_n 0, 1), (21, .getfield 9, 3), (24, .iload_n 2, 1), (25, .aload_n 1, 1)] := dk_use _ _ (by decide +kernel)
theorem dd_X4_copyFrom_1 : dk_R cX4_copyFrom [(26, .getfield 9, 3), (29, .iload_n 2, 1), (30, .iaload, 1), (31, .iastore, 1), (32, .iinc 2 1, 3), (35, .goto (-33), 3), (38, .return_, 1)] := dk_use _ _ (by decide +kernel)
def fX4_copyFrom (hf : Nat → Int32) (h2f : Nat → Int32) : Option (Nat → Int32) := ((wl (S := Int32 × (Nat → Int32)) (B := Int32 × (Nat → Int32)) (fun s_1 => (if (nI 81) ≤ s_1.1 then some (.inr (s_1.1, s_1.2)) else (if (nI 81) ≤ s_1.1 then some (.inr (s_1.1, s_1.2)) else (if ¬ (s_1.1 < 0 ∨ 81 ≤ s_1.1.toNatClampNeg) then (if ¬ (s_1.1 < 0 ∨ 81 ≤ s_1.1.toNatClampNeg) then some (.inl (s_1.1 + 1, upd s_1.2 s_1.1.toNatClampNeg (h2f s_1.1.toNatClampNeg))) else none) else none)))) yFuel (0, hf)).bind fun b_1 => some b_1.2)
abbrev hX4_copyFrom : Cond := .code yX4_copyFrom cX4_copyFrom 3 none
theorem mX4_copyFrom : yM yX4_copyFrom hX4_copyFrom 1 := ⟨u_770, u_59, by decide +kernel, by decide +kernel, by decide +kernel⟩
set_option maxHeartbeats 4000000 in
set_option maxRecDepth 100000 in
theorem kX4_copyFrom (l : Launch) (D : va_G) (cy : Nat → ClassId) (h : Nat) (hn : Nat) (hf : Nat → Int32) (h2 : Nat) (h2n : Nat) (h2f : Nat → Int32) {res : Nat → Int32} (hR : fX4_copyFrom hf h2f = some res) : YM l D cy yX4_copyFrom hX4_copyFrom 1 0 0 [.ref h, .ref h2] [[(h, .inr (6, [.ref hn]))], [(hn, .inl (cy 1, 81, .inl hf))], [(h2, .inr (6, [.ref h2n]))], [(h2n, .inl (cy 1, 81, .inl h2f))]] (fun v u => v = none ∧ u = [[(h, .inr (6, [.ref hn]))], [(hn, .inl (cy 1, 81, .inl res))], [(h2, .inr (6, [.ref h2n]))], [(h2n, .inl (cy 1, 81, .inl h2f))]]) := by
  unfold fX4_copyFrom at hR
  refine YM.ofV (cc := cX4_copyFrom) (maxL := 3) (ret := none) (by decide +kernel) rfl (Nat.le_of_ble_eq_true rfl) [(0, .ref h), (1, .ref h2)] rfl rfl (fun p e s m args below meth c A H0 Q C hnm ret => ?_)
  refine xr_iconst (n := 1) (v := 0) C dd_X4_copyFrom_0.1 rfl rfl ?_
  refine xr_istore_n (n := 2) C [(2, .int 0), (0, .ref h), (1, .ref h2)] dd_X4_copyFrom_0.2.1 (by decide) rfl rfl ?_
  refine xr_lv (lv' := [(0, .ref h), (1, .ref h2), (2, .int 0)]) [1, 2, 0] rfl ?_
  obtain ⟨b_1, hb_1, hR⟩ := yf_b hR
  have K_1 : X p l e (yR 1 0 0) s m args below meth c D A H0 3 Q [[(h, .inr (6, [.ref hn]))], [(hn, .inl (cy 1, 81, .inl b_1.2))], [(h2, .inr (6, [.ref h2n]))], [(h2n, .inl (cy 1, 81, .inl h2f))]] 0 0 [] 38 [] := by
    obtain rfl := Option.some.inj hR
    exact ret ⟨rfl, rfl⟩ (Nat.le_of_ble_eq_true rfl) (Nat.le_of_ble_eq_true rfl) dd_X4_copyFrom_1.2.2.2.2.2.2.1
  refine y_loop (P := fun (s_1 : Int32 × (Nat → Int32)) => X p l e (yR 1 0 0) s m args below meth c D A H0 3 Q [[(h, .inr (6, [.ref hn]))], [(hn, .inl (cy 1, 81, .inl s_1.2))], [(h2, .inr (6, [.ref h2n]))], [(h2n, .inl (cy 1, 81, .inl h2f))]] 0 0 [(0, .ref h), (1, .ref h2), (2, .int s_1.1)] 2 []) ?_ _ (0, hf) hb_1
  intro s_1 o_1 ho_1 hk_1 hx_1
  refine xr_iload_n (n := 3) (j := 2) C dd_X4_copyFrom_0.2.2.1 rfl rfl ?_
  refine xr_aload_n (n := 4) (j := 0) C dd_X4_copyFrom_0.2.2.2.1 rfl rfl ?_
  refine xr_get (n := 7) C 0 rfl rfl 0 (by decide) in_X4 u_104 rfl (v := .ref hn) rfl dd_X4_copyFrom_0.2.2.2.2.1 rfl ?_
  refine xr_alen (n := 8) C 1 0 rfl 1 rfl rfl dd_X4_copyFrom_0.2.2.2.2.2.1 rfl ?_
  refine xr_icmp_ge (tgt := 38) (n := 11) C dd_X4_copyFrom_0.2.2.2.2.2.2.1 rfl rfl (fun c_2 => ?_) (fun c_2 => ?_)
  · replace ho_1 := yf_t c_2 ho_1
    refine xr_lv (lv' := []) [] rfl ?_
    have e_3 := hx_1 _ (Option.some.inj ho_1).symm
    subst e_3
    exact K_1
  · replace ho_1 := yf_f c_2 ho_1
    refine xr_iload_n (n := 12) (j := 2) C dd_X4_copyFrom_0.2.2.2.2.2.2.2.1 rfl rfl ?_
    refine xr_aload_n (n := 13) (j := 1) C dd_X4_copyFrom_0.2.2.2.2.2.2.2.2.1 rfl rfl ?_
    refine xr_get (n := 16) C 2 rfl rfl 0 (by decide) in_X4 u_104 rfl (v := .ref h2n) rfl dd_X4_copyFrom_0.2.2.2.2.2.2.2.2.2.1 rfl ?_
    refine xr_alen (n := 17) C 3 0 rfl 1 rfl rfl dd_X4_copyFrom_0.2.2.2.2.2.2.2.2.2.2.1 rfl ?_
    refine xr_icmp_ge (tgt := 38) (n := 20) C dd_X4_copyFrom_0.2.2.2.2.2.2.2.2.2.2.2.1 rfl rfl (fun c_4 => ?_) (fun c_4 => ?_)
    · replace ho_1 := yf_t c_4 ho_1
      refine xr_lv (lv' := []) [] rfl ?_
      have e_5 := hx_1 _ (Option.some.inj ho_1).symm
      subst e_5
      exact K_1
    · replace ho_1 := yf_f c_4 ho_1
      refine xr_aload_n (n := 21) (j := 0) C dd_X4_copyFrom_0.2.2.2.2.2.2.2.2.2.2.2.2.1 rfl rfl ?_
      refine xr_get (n := 24) C 0 rfl rfl 0 (by decide) in_X4 u_104 rfl (v := .ref hn) rfl dd_X4_copyFrom_0.2.2.2.2.2.2.2.2.2.2.2.2.2.1 rfl ?_
      refine xr_iload_n (n := 25) (j := 2) C dd_X4_copyFrom_0.2.2.2.2.2.2.2.2.2.2.2.2.2.2.1 rfl rfl ?_
      refine xr_aload_n (n := 26) (j := 1) C dd_X4_copyFrom_0.2.2.2.2.2.2.2.2.2.2.2.2.2.2.2.1 rfl rfl ?_
      refine xr_get (n := 29) C 2 rfl rfl 0 (by decide) in_X4 u_104 rfl (v := .ref h2n) rfl dd_X4_copyFrom_1.1 rfl ?_
      refine xr_iload_n (n := 30) (j := 2) C dd_X4_copyFrom_1.2.1 rfl rfl ?_
      obtain ⟨g_6, ho_1⟩ := yf_g ho_1
      refine xr_iald (n := 31) C 3 0 rfl rfl g_6 dd_X4_copyFrom_1.2.2.1 rfl ?_
      obtain ⟨g_7, ho_1⟩ := yf_g ho_1
      refine xr_iast (n := 32) C 1 0 rfl rfl g_7 [[(h, .inr (6, [.ref hn]))], [(hn, .inl (cy 1, 81, .inl (upd s_1.2 s_1.1.toNatClampNeg (h2f s_1.1.toNatClampNeg))))], [(h2, .inr (6, [.ref h2n]))], [(h2n, .inl (cy 1, 81, .inl h2f))]] rfl dd_X4_copyFrom_1.2.2.2.1 rfl ?_
      refine xr_iinc (j := 2) (v := s_1.1 + 1) (n := 35) C [(2, .int (s_1.1 + 1)), (0, .ref h), (1, .ref h2)] dd_X4_copyFrom_1.2.2.2.2.1 rfl rfl (by decide) rfl rfl ?_
      refine xr_goto (tgt := 2) C dd_X4_copyFrom_1.2.2.2.2.2.1 rfl ?_
      refine xr_lv (lv' := [(0, .ref h), (1, .ref h2), (2, .int (s_1.1 + 1))]) [1, 2, 0] rfl ?_
      exact hk_1 (s_1.1 + 1, upd s_1.2 s_1.1.toNatClampNeg (h2f s_1.1.toNatClampNeg)) (Option.some.inj ho_1).symm
theorem dd_X0_bitOf_0 : dk_R cX0_bitOf [(0, .iconst 1, 1), (1, .iload_n 0, 1), (2, .iconst 5, 1), (3, .imul, 1), (4, .iload_n 1, 1), (5, .iadd, 1), (6, .ishl, 1), (7, .ireturn, 1)] := dk_use _ _ (by decide +kernel)
def fX0_bitOf (i1 : Int32) (i2 : Int32) : Option (Int32) := some ((1 : Int32) <<< (((i1 * 5) + i2) &&& 31))
abbrev hX0_bitOf : Cond := .code yX0_bitOf cX0_bitOf 2 (some .int)
theorem mX0_bitOf : yM yX0_bitOf hX0_bitOf 2 := ⟨u_491, u_60, by decide +kernel, by decide +kernel, by decide +kernel⟩
set_option maxHeartbeats 4000000 in
set_option maxRecDepth 100000 in
theorem kX0_bitOf (l : Launch) (D : va_G) (cy : Nat → ClassId) (i1 : Int32) (i2 : Int32) {res : Int32} (hR : fX0_bitOf i1 i2 = some res) : YM l D cy yX0_bitOf hX0_bitOf 1 0 0 [.int i1, .int i2] [] (fun v u => v = some (.int res) ∧ u = []) := by
  unfold fX0_bitOf at hR
  refine YM.ofI (cc := cX0_bitOf) (maxL := 2) (ret := (some .int)) (by decide +kernel) rfl (Nat.le_of_ble_eq_true rfl) [(0, .int i1), (1, .int i2)] rfl rfl (fun p e s m args below meth c A H0 Q C hnm ret => ?_)
  refine xr_iconst (n := 1) (v := 1) C dd_X0_bitOf_0.1 rfl rfl ?_
  refine xr_iload_n (n := 2) (j := 0) C dd_X0_bitOf_0.2.1 rfl rfl ?_
  refine xr_iconst (n := 3) (v := 5) C dd_X0_bitOf_0.2.2.1 rfl rfl ?_
  refine xr_imul (n := 4) C dd_X0_bitOf_0.2.2.2.1 rfl ?_
  refine xr_iload_n (n := 5) (j := 1) C dd_X0_bitOf_0.2.2.2.2.1 rfl rfl ?_
  refine xr_iadd (n := 6) C dd_X0_bitOf_0.2.2.2.2.2.1 rfl ?_
  refine xr_ishl (n := 7) C dd_X0_bitOf_0.2.2.2.2.2.2.1 rfl ?_
  obtain rfl := Option.some.inj hR
  exact ret ((1 : Int32) <<< (((i1 * 5) + i2) &&& 31)) ⟨rfl, rfl⟩ (Nat.le_of_ble_eq_true rfl) (Nat.le_of_ble_eq_true rfl) dd_X0_bitOf_0.2.2.2.2.2.2.2.1
