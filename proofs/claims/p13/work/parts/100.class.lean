theorem u_351 : Cond.constant RJ6 265 (1431655765) ∈ yU := yu_tables_1_2 55 (by decide +kernel) (by decide +kernel)
theorem u_352 : Cond.constant RJ6 266 (858993459) ∈ yU := yu_tables_1_2 56 (by decide +kernel) (by decide +kernel)
theorem u_353 : Cond.constant RJ6 267 (252645135) ∈ yU := yu_tables_1_2 57 (by decide +kernel) (by decide +kernel)
theorem u_350 : Cond.code yJ6_bitCount_0f7a4 cJ6_bitCount_0f7a4 1 (some .int) ∈ yU := yu_tables_1_2 54 (by decide +kernel) (by decide +kernel)
theorem u_73 : Cond.initialized RJ6 ∈ yU := yu_tables_1_1 17 (by decide +kernel) (by decide +kernel)
theorem u_104 : Cond.fieldLink RX4 9 "Pulsemesh$Table" "numbers" "[I" ∈ yU := yu_tables_1_1 48 (by decide +kernel) (by decide +kernel)
theorem u_343 : Cond.code yX4_get cX4_get 3 (some .int) ∈ yU := yu_tables_1_2 47 (by decide +kernel) (by decide +kernel)
theorem u_59 : Cond.initialized RX4 ∈ yU := yu_tables_1_1 3 (by decide +kernel) (by decide +kernel)
theorem u_682 : Cond.code yX4_set cX4_set 4 none ∈ yU := yu_tables_1_3 146 (by decide +kernel) (by decide +kernel)
theorem u_650 : Cond.code yX4_fill cX4_fill 3 none ∈ yU := yu_tables_1_3 114 (by decide +kernel) (by decide +kernel)
theorem u_770 : Cond.code yX4_copyFrom cX4_copyFrom 3 none ∈ yU := yu_tables_1_3 234 (by decide +kernel) (by decide +kernel)
theorem u_491 : Cond.code yX0_bitOf cX0_bitOf 2 (some .int) ∈ yU := yu_tables_1_2 195 (by decide +kernel) (by decide +kernel)
theorem u_60 : Cond.initialized RX0 ∈ yU := yu_tables_1_1 4 (by decide +kernel) (by decide +kernel)
theorem dJ6_bitCount_0f7a4_0 : decode cJ6_bitCount_0f7a4 0 = .ok (.iload_n 0, 1) := by decide +kernel
theorem dJ6_bitCount_0f7a4_1 : decode cJ6_bitCount_0f7a4 1 = .ok (.iload_n 0, 1) := by decide +kernel
theorem dJ6_bitCount_0f7a4_2 : decode cJ6_bitCount_0f7a4 2 = .ok (.iconst 1, 1) := by decide +kernel
theorem dJ6_bitCount_0f7a4_3 : decode cJ6_bitCount_0f7a4 3 = .ok (.iushr, 1) := by decide +kernel
theorem dJ6_bitCount_0f7a4_4 : decode cJ6_bitCount_0f7a4 4 = .ok (.ldc_w 265, 3) := by decide +kernel
theorem dJ6_bitCount_0f7a4_7 : decode cJ6_bitCount_0f7a4 7 = .ok (.iand, 1) := by decide +kernel
theorem dJ6_bitCount_0f7a4_8 : decode cJ6_bitCount_0f7a4 8 = .ok (.isub, 1) := by decide +kernel
theorem dJ6_bitCount_0f7a4_9 : decode cJ6_bitCount_0f7a4 9 = .ok (.istore_n 0, 1) := by decide +kernel
theorem dJ6_bitCount_0f7a4_10 : decode cJ6_bitCount_0f7a4 10 = .ok (.iload_n 0, 1) := by decide +kernel
theorem dJ6_bitCount_0f7a4_11 : decode cJ6_bitCount_0f7a4 11 = .ok (.ldc_w 266, 3) := by decide +kernel
theorem dJ6_bitCount_0f7a4_14 : decode cJ6_bitCount_0f7a4 14 = .ok (.iand, 1) := by decide +kernel
theorem dJ6_bitCount_0f7a4_15 : decode cJ6_bitCount_0f7a4 15 = .ok (.iload_n 0, 1) := by decide +kernel
theorem dJ6_bitCount_0f7a4_16 : decode cJ6_bitCount_0f7a4 16 = .ok (.iconst 2, 1) := by decide +kernel
theorem dJ6_bitCount_0f7a4_17 : decode cJ6_bitCount_0f7a4 17 = .ok (.iushr, 1) := by decide +kernel
theorem dJ6_bitCount_0f7a4_18 : decode cJ6_bitCount_0f7a4 18 = .ok (.ldc_w 266, 3) := by decide +kernel
theorem dJ6_bitCount_0f7a4_21 : decode cJ6_bitCount_0f7a4 21 = .ok (.iand, 1) := by decide +kernel
theorem dJ6_bitCount_0f7a4_22 : decode cJ6_bitCount_0f7a4 22 = .ok (.iadd, 1) := by decide +kernel
theorem dJ6_bitCount_0f7a4_23 : decode cJ6_bitCount_0f7a4 23 = .ok (.istore_n 0, 1) := by decide +kernel
theorem dJ6_bitCount_0f7a4_24 : decode cJ6_bitCount_0f7a4 24 = .ok (.iload_n 0, 1) := by decide +kernel
theorem dJ6_bitCount_0f7a4_25 : decode cJ6_bitCount_0f7a4 25 = .ok (.iload_n 0, 1) := by decide +kernel
theorem dJ6_bitCount_0f7a4_26 : decode cJ6_bitCount_0f7a4 26 = .ok (.iconst 4, 1) := by decide +kernel
theorem dJ6_bitCount_0f7a4_27 : decode cJ6_bitCount_0f7a4 27 = .ok (.iushr, 1) := by decide +kernel
theorem dJ6_bitCount_0f7a4_28 : decode cJ6_bitCount_0f7a4 28 = .ok (.iadd, 1) := by decide +kernel
theorem dJ6_bitCount_0f7a4_29 : decode cJ6_bitCount_0f7a4 29 = .ok (.ldc_w 267, 3) := by decide +kernel
theorem dJ6_bitCount_0f7a4_32 : decode cJ6_bitCount_0f7a4 32 = .ok (.iand, 1) := by decide +kernel
theorem dJ6_bitCount_0f7a4_33 : decode cJ6_bitCount_0f7a4 33 = .ok (.istore_n 0, 1) := by decide +kernel
theorem dJ6_bitCount_0f7a4_34 : decode cJ6_bitCount_0f7a4 34 = .ok (.iload_n 0, 1) := by decide +kernel
theorem dJ6_bitCount_0f7a4_35 : decode cJ6_bitCount_0f7a4 35 = .ok (.iload_n 0, 1) := by decide +kernel
theorem dJ6_bitCount_0f7a4_36 : decode cJ6_bitCount_0f7a4 36 = .ok (.bipush 8, 2) := by decide +kernel
theorem dJ6_bitCount_0f7a4_38 : decode cJ6_bitCount_0f7a4 38 = .ok (.iushr, 1) := by decide +kernel
theorem dJ6_bitCount_0f7a4_39 : decode cJ6_bitCount_0f7a4 39 = .ok (.iadd, 1) := by decide +kernel
theorem dJ6_bitCount_0f7a4_40 : decode cJ6_bitCount_0f7a4 40 = .ok (.istore_n 0, 1) := by decide +kernel
theorem dJ6_bitCount_0f7a4_41 : decode cJ6_bitCount_0f7a4 41 = .ok (.iload_n 0, 1) := by decide +kernel
theorem dJ6_bitCount_0f7a4_42 : decode cJ6_bitCount_0f7a4 42 = .ok (.iload_n 0, 1) := by decide +kernel
theorem dJ6_bitCount_0f7a4_43 : decode cJ6_bitCount_0f7a4 43 = .ok (.bipush 16, 2) := by decide +kernel
theorem dJ6_bitCount_0f7a4_45 : decode cJ6_bitCount_0f7a4 45 = .ok (.iushr, 1) := by decide +kernel
theorem dJ6_bitCount_0f7a4_46 : decode cJ6_bitCount_0f7a4 46 = .ok (.iadd, 1) := by decide +kernel
theorem dJ6_bitCount_0f7a4_47 : decode cJ6_bitCount_0f7a4 47 = .ok (.istore_n 0, 1) := by decide +kernel
theorem dJ6_bitCount_0f7a4_48 : decode cJ6_bitCount_0f7a4 48 = .ok (.iload_n 0, 1) := by decide +kernel
theorem dJ6_bitCount_0f7a4_49 : decode cJ6_bitCount_0f7a4 49 = .ok (.bipush 63, 2) := by decide +kernel
theorem dJ6_bitCount_0f7a4_51 : decode cJ6_bitCount_0f7a4 51 = .ok (.iand, 1) := by decide +kernel
theorem dJ6_bitCount_0f7a4_52 : decode cJ6_bitCount_0f7a4 52 = .ok (.ireturn, 1) := by decide +kernel
def fJ6_bitCount_0f7a4 (i1 : Int32) : Option (Int32) := (ylet (i1 - (((i1.toUInt32 >>> ((1 : Int32).toUInt32 &&& Int32.toUInt32 31)).toInt32) &&& 1431655765) : Int32) fun y_1 => (ylet ((y_1 &&& 858993459) + (((y_1.toUInt32 >>> ((2 : Int32).toUInt32 &&& Int32.toUInt32 31)).toInt32) &&& 858993459) : Int32) fun y_2 => (ylet ((y_2 + ((y_2.toUInt32 >>> ((4 : Int32).toUInt32 &&& Int32.toUInt32 31)).toInt32)) &&& 252645135 : Int32) fun y_3 => (ylet (y_3 + ((y_3.toUInt32 >>> ((8 : Int32).toUInt32 &&& Int32.toUInt32 31)).toInt32) : Int32) fun y_4 => (ylet (y_4 + ((y_4.toUInt32 >>> ((16 : Int32).toUInt32 &&& Int32.toUInt32 31)).toInt32) : Int32) fun y_5 => some (y_5 &&& 63))))))
abbrev hJ6_bitCount_0f7a4 : Cond := .code yJ6_bitCount_0f7a4 cJ6_bitCount_0f7a4 1 (some .int)
theorem mJ6_bitCount_0f7a4 : yM yJ6_bitCount_0f7a4 hJ6_bitCount_0f7a4 1 := ⟨u_350, u_73, by decide +kernel, by decide +kernel, by decide +kernel⟩
set_option maxHeartbeats 4000000 in
set_option maxRecDepth 100000 in
theorem kJ6_bitCount_0f7a4 (l : Launch) (D : va_G) (cy : Nat → ClassId) (i1 : Int32) {res : Int32} (hR : fJ6_bitCount_0f7a4 i1 = some res) : YM l D cy yJ6_bitCount_0f7a4 hJ6_bitCount_0f7a4 1 0 0 [.int i1] [] (fun v u => v = some (.int res) ∧ u = []) := by
  unfold fJ6_bitCount_0f7a4 at hR
  refine YM.ofI (cc := cJ6_bitCount_0f7a4) (maxL := 1) (ret := (some .int)) (by decide +kernel) rfl (Nat.le_of_ble_eq_true rfl) [(0, .int i1)] rfl rfl (fun p e s m args below meth c A H0 Q C hnm ret => ?_)
  refine xr_iload_n (n := 1) (j := 0) C dJ6_bitCount_0f7a4_0 rfl rfl ?_
  refine xr_iload_n (n := 2) (j := 0) C dJ6_bitCount_0f7a4_1 rfl rfl ?_
  refine xr_iconst (n := 3) (v := 1) C dJ6_bitCount_0f7a4_2 rfl rfl ?_
  refine xr_iushr (n := 4) C dJ6_bitCount_0f7a4_3 rfl ?_
  refine xr_ldcw (n := 7) (v := 1431655765) C u_351 dJ6_bitCount_0f7a4_4 rfl ?_
  refine xr_iand (n := 8) C dJ6_bitCount_0f7a4_7 rfl ?_
  refine xr_isub (n := 9) C dJ6_bitCount_0f7a4_8 rfl ?_
  obtain ⟨y_1, ey_1, hR⟩ := yf_l hR
  refine xr_topI ey_1 ?_
  refine xr_istore_n (n := 10) C [(0, .int y_1)] dJ6_bitCount_0f7a4_9 (by decide) rfl rfl ?_
  refine xr_iload_n (n := 11) (j := 0) C dJ6_bitCount_0f7a4_10 rfl rfl ?_
  refine xr_ldcw (n := 14) (v := 858993459) C u_352 dJ6_bitCount_0f7a4_11 rfl ?_
  refine xr_iand (n := 15) C dJ6_bitCount_0f7a4_14 rfl ?_
  refine xr_iload_n (n := 16) (j := 0) C dJ6_bitCount_0f7a4_15 rfl rfl ?_
  refine xr_iconst (n := 17) (v := 2) C dJ6_bitCount_0f7a4_16 rfl rfl ?_
  refine xr_iushr (n := 18) C dJ6_bitCount_0f7a4_17 rfl ?_
  refine xr_ldcw (n := 21) (v := 858993459) C u_352 dJ6_bitCount_0f7a4_18 rfl ?_
  refine xr_iand (n := 22) C dJ6_bitCount_0f7a4_21 rfl ?_
  refine xr_iadd (n := 23) C dJ6_bitCount_0f7a4_22 rfl ?_
  obtain ⟨y_2, ey_2, hR⟩ := yf_l hR
  refine xr_topI ey_2 ?_
  refine xr_istore_n (n := 24) C [(0, .int y_2)] dJ6_bitCount_0f7a4_23 (by decide) rfl rfl ?_
  refine xr_iload_n (n := 25) (j := 0) C dJ6_bitCount_0f7a4_24 rfl rfl ?_
  refine xr_iload_n (n := 26) (j := 0) C dJ6_bitCount_0f7a4_25 rfl rfl ?_
  refine xr_iconst (n := 27) (v := 4) C dJ6_bitCount_0f7a4_26 rfl rfl ?_
  refine xr_iushr (n := 28) C dJ6_bitCount_0f7a4_27 rfl ?_
  refine xr_iadd (n := 29) C dJ6_bitCount_0f7a4_28 rfl ?_
  refine xr_ldcw (n := 32) (v := 252645135) C u_353 dJ6_bitCount_0f7a4_29 rfl ?_
  refine xr_iand (n := 33) C dJ6_bitCount_0f7a4_32 rfl ?_
  obtain ⟨y_3, ey_3, hR⟩ := yf_l hR
  refine xr_topI ey_3 ?_
  refine xr_istore_n (n := 34) C [(0, .int y_3)] dJ6_bitCount_0f7a4_33 (by decide) rfl rfl ?_
  refine xr_iload_n (n := 35) (j := 0) C dJ6_bitCount_0f7a4_34 rfl rfl ?_
  refine xr_iload_n (n := 36) (j := 0) C dJ6_bitCount_0f7a4_35 rfl rfl ?_
  refine xr_bipush (n := 38) (v := 8) C dJ6_bitCount_0f7a4_36 rfl rfl ?_
  refine xr_iushr (n := 39) C dJ6_bitCount_0f7a4_38 rfl ?_
  refine xr_iadd (n := 40) C dJ6_bitCount_0f7a4_39 rfl ?_
  obtain ⟨y_4, ey_4, hR⟩ := yf_l hR
  refine xr_topI ey_4 ?_
  refine xr_istore_n (n := 41) C [(0, .int y_4)] dJ6_bitCount_0f7a4_40 (by decide) rfl rfl ?_
  refine xr_iload_n (n := 42) (j := 0) C dJ6_bitCount_0f7a4_41 rfl rfl ?_
  refine xr_iload_n (n := 43) (j := 0) C dJ6_bitCount_0f7a4_42 rfl rfl ?_
  refine xr_bipush (n := 45) (v := 16) C dJ6_bitCount_0f7a4_43 rfl rfl ?_
  refine xr_iushr (n := 46) C dJ6_bitCount_0f7a4_45 rfl ?_
  refine xr_iadd (n := 47) C dJ6_bitCount_0f7a4_46 rfl ?_
  obtain ⟨y_5, ey_5, hR⟩ := yf_l hR
  refine xr_topI ey_5 ?_
  refine xr_istore_n (n := 48) C [(0, .int y_5)] dJ6_bitCount_0f7a4_47 (by decide) rfl rfl ?_
  refine xr_iload_n (n := 49) (j := 0) C dJ6_bitCount_0f7a4_48 rfl rfl ?_
  refine xr_bipush (n := 51) (v := 63) C dJ6_bitCount_0f7a4_49 rfl rfl ?_
  refine xr_iand (n := 52) C dJ6_bitCount_0f7a4_51 rfl ?_
  obtain rfl := Option.some.inj hR
  exact ret (y_5 &&& 63) ⟨rfl, rfl⟩ (Nat.le_of_ble_eq_true rfl) (Nat.le_of_ble_eq_true rfl) dJ6_bitCount_0f7a4_52
theorem dX4_get_0 : decode cX4_get 0 = .ok (.iload_n 1, 1) := by decide +kernel
theorem dX4_get_1 : decode cX4_get 1 = .ok (.ifCond .lt 19, 3) := by decide +kernel
theorem dX4_get_4 : decode cX4_get 4 = .ok (.iload_n 1, 1) := by decide +kernel
theorem dX4_get_5 : decode cX4_get 5 = .ok (.bipush 9, 2) := by decide +kernel
theorem dX4_get_7 : decode cX4_get 7 = .ok (.if_icmp .ge 13, 3) := by decide +kernel
theorem dX4_get_10 : decode cX4_get 10 = .ok (.iload_n 2, 1) := by decide +kernel
theorem dX4_get_11 : decode cX4_get 11 = .ok (.ifCond .lt 9, 3) := by decide +kernel
theorem dX4_get_14 : decode cX4_get 14 = .ok (.iload_n 2, 1) := by decide +kernel
theorem dX4_get_15 : decode cX4_get 15 = .ok (.bipush 9, 2) := by decide +kernel
theorem dX4_get_17 : decode cX4_get 17 = .ok (.if_icmp .lt 5, 3) := by decide +kernel
theorem dX4_get_20 : decode cX4_get 20 = .ok (.iconst 0, 1) := by decide +kernel
theorem dX4_get_21 : decode cX4_get 21 = .ok (.ireturn, 1) := by decide +kernel
theorem dX4_get_22 : decode cX4_get 22 = .ok (.aload_n 0, 1) := by decide +kernel
theorem dX4_get_23 : decode cX4_get 23 = .ok (.getfield 9, 3) := by decide +kernel
theorem dX4_get_26 : decode cX4_get 26 = .ok (.iload_n 1, 1) := by decide +kernel
theorem dX4_get_27 : decode cX4_get 27 = .ok (.bipush 9, 2) := by decide +kernel
theorem dX4_get_29 : decode cX4_get 29 = .ok (.imul, 1) := by decide +kernel
theorem dX4_get_30 : decode cX4_get 30 = .ok (.iload_n 2, 1) := by decide +kernel
theorem dX4_get_31 : decode cX4_get 31 = .ok (.iadd, 1) := by decide +kernel
theorem dX4_get_32 : decode cX4_get 32 = .ok (.iaload, 1) := by decide +kernel
theorem dX4_get_33 : decode cX4_get 33 = .ok (.ireturn, 1) := by decide +kernel
def fX4_get (hf : Nat → Int32) (row : Int32) (col : Int32) : Option (Int32) := (if row < 0 then some 0 else (if 9 ≤ row then some 0 else (if col < 0 then some 0 else (if col < 9 then (if ¬ (((row * 9) + col) < 0 ∨ 81 ≤ ((row * 9) + col).toNatClampNeg) then some (hf ((row * 9) + col).toNatClampNeg) else none) else some 0))))
abbrev hX4_get : Cond := .code yX4_get cX4_get 3 (some .int)
theorem mX4_get : yM yX4_get hX4_get 2 := ⟨u_343, u_59, by decide +kernel, by decide +kernel, by decide +kernel⟩
set_option maxHeartbeats 4000000 in
set_option maxRecDepth 100000 in
theorem kX4_get (l : Launch) (D : va_G) (cy : Nat → ClassId) (h : Nat) (hn : Nat) (hf : Nat → Int32) (row : Int32) (col : Int32) {res : Int32} (hR : fX4_get hf row col = some res) : YM l D cy yX4_get hX4_get 1 0 0 [.ref h, .int row, .int col] [[(h, .inr (6, [.ref hn]))], [(hn, .inl (cy 1, 81, .inl hf))]] (fun v u => v = some (.int res) ∧ u = [[(h, .inr (6, [.ref hn]))], [(hn, .inl (cy 1, 81, .inl hf))]]) := by
  unfold fX4_get at hR
  refine YM.ofI (cc := cX4_get) (maxL := 3) (ret := (some .int)) (by decide +kernel) rfl (Nat.le_of_ble_eq_true rfl) [(0, .ref h), (1, .int row), (2, .int col)] rfl rfl (fun p e s m args below meth c A H0 Q C hnm ret => ?_)
  refine xr_iload_n (n := 1) (j := 1) C dX4_get_0 rfl rfl ?_
  refine xr_if_lt (tgt := 20) (n := 4) C dX4_get_1 rfl rfl (fun c_1 => ?_) (fun c_1 => ?_)
  · replace hR := yf_t c_1 hR
    refine xr_iconst (n := 21) (v := 0) C dX4_get_20 rfl rfl ?_
    obtain rfl := Option.some.inj hR
    exact ret 0 ⟨rfl, rfl⟩ (Nat.le_of_ble_eq_true rfl) (Nat.le_of_ble_eq_true rfl) dX4_get_21
  · replace hR := yf_f c_1 hR
    refine xr_iload_n (n := 5) (j := 1) C dX4_get_4 rfl rfl ?_
    refine xr_bipush (n := 7) (v := 9) C dX4_get_5 rfl rfl ?_
    refine xr_icmp_ge (tgt := 20) (n := 10) C dX4_get_7 rfl rfl (fun c_2 => ?_) (fun c_2 => ?_)
    · replace hR := yf_t c_2 hR
      refine xr_iconst (n := 21) (v := 0) C dX4_get_20 rfl rfl ?_
      obtain rfl := Option.some.inj hR
      exact ret 0 ⟨rfl, rfl⟩ (Nat.le_of_ble_eq_true rfl) (Nat.le_of_ble_eq_true rfl) dX4_get_21
    · replace hR := yf_f c_2 hR
      refine xr_iload_n (n := 11) (j := 2) C dX4_get_10 rfl rfl ?_
      refine xr_if_lt (tgt := 20) (n := 14) C dX4_get_11 rfl rfl (fun c_3 => ?_) (fun c_3 => ?_)
      · replace hR := yf_t c_3 hR
        refine xr_iconst (n := 21) (v := 0) C dX4_get_20 rfl rfl ?_
        obtain rfl := Option.some.inj hR
        exact ret 0 ⟨rfl, rfl⟩ (Nat.le_of_ble_eq_true rfl) (Nat.le_of_ble_eq_true rfl) dX4_get_21
      · replace hR := yf_f c_3 hR
        refine xr_iload_n (n := 15) (j := 2) C dX4_get_14 rfl rfl ?_
        refine xr_bipush (n := 17) (v := 9) C dX4_get_15 rfl rfl ?_
        refine xr_icmp_lt (tgt := 22) (n := 20) C dX4_get_17 rfl rfl (fun c_4 => ?_) (fun c_4 => ?_)
        · replace hR := yf_t c_4 hR
          refine xr_aload_n (n := 23) (j := 0) C dX4_get_22 rfl rfl ?_
          refine xr_get (n := 26) C 0 rfl rfl 0 (by decide) in_X4 u_104 rfl (v := .ref hn) rfl dX4_get_23 rfl ?_
          refine xr_iload_n (n := 27) (j := 1) C dX4_get_26 rfl rfl ?_
          refine xr_bipush (n := 29) (v := 9) C dX4_get_27 rfl rfl ?_
          refine xr_imul (n := 30) C dX4_get_29 rfl ?_
          refine xr_iload_n (n := 31) (j := 2) C dX4_get_30 rfl rfl ?_
          refine xr_iadd (n := 32) C dX4_get_31 rfl ?_
          obtain ⟨g_5, hR⟩ := yf_g hR
          refine xr_iald (n := 33) C 1 0 rfl rfl g_5 dX4_get_32 rfl ?_
          obtain rfl := Option.some.inj hR
          exact ret (hf ((row * 9) + col).toNatClampNeg) ⟨rfl, rfl⟩ (Nat.le_of_ble_eq_true rfl) (Nat.le_of_ble_eq_true rfl) dX4_get_33
        · replace hR := yf_f c_4 hR
          refine xr_iconst (n := 21) (v := 0) C dX4_get_20 rfl rfl ?_
          obtain rfl := Option.some.inj hR
          exact ret 0 ⟨rfl, rfl⟩ (Nat.le_of_ble_eq_true rfl) (Nat.le_of_ble_eq_true rfl) dX4_get_21
theorem dX4_set_0 : decode cX4_set 0 = .ok (.iload_n 1, 1) := by decide +kernel
theorem dX4_set_1 : decode cX4_set 1 = .ok (.ifCond .lt 19, 3) := by decide +kernel
theorem dX4_set_4 : decode cX4_set 4 = .ok (.iload_n 1, 1) := by decide +kernel
theorem dX4_set_5 : decode cX4_set 5 = .ok (.bipush 9, 2) := by decide +kernel
theorem dX4_set_7 : decode cX4_set 7 = .ok (.if_icmp .ge 13, 3) := by decide +kernel
theorem dX4_set_10 : decode cX4_set 10 = .ok (.iload_n 2, 1) := by decide +kernel
theorem dX4_set_11 : decode cX4_set 11 = .ok (.ifCond .lt 9, 3) := by decide +kernel
theorem dX4_set_14 : decode cX4_set 14 = .ok (.iload_n 2, 1) := by decide +kernel
theorem dX4_set_15 : decode cX4_set 15 = .ok (.bipush 9, 2) := by decide +kernel
theorem dX4_set_17 : decode cX4_set 17 = .ok (.if_icmp .lt 4, 3) := by decide +kernel
theorem dX4_set_20 : decode cX4_set 20 = .ok (.return_, 1) := by decide +kernel
theorem dX4_set_21 : decode cX4_set 21 = .ok (.aload_n 0, 1) := by decide +kernel
theorem dX4_set_22 : decode cX4_set 22 = .ok (.getfield 9, 3) := by decide +kernel
theorem dX4_set_25 : decode cX4_set 25 = .ok (.iload_n 1, 1) := by decide +kernel
theorem dX4_set_26 : decode cX4_set 26 = .ok (.bipush 9, 2) := by decide +kernel
theorem dX4_set_28 : decode cX4_set 28 = .ok (.imul, 1) := by decide +kernel
theorem dX4_set_29 : decode cX4_set 29 = .ok (.iload_n 2, 1) := by decide +kernel
theorem dX4_set_30 : decode cX4_set 30 = .ok (.iadd, 1) := by decide +kernel
theorem dX4_set_31 : decode cX4_set 31 = .ok (.iload_n 3, 1) := by decide +kernel
theorem dX4_set_32 : decode cX4_set 32 = .ok (.iastore, 1) := by decide +kernel
theorem dX4_set_33 : decode cX4_set 33 = .ok (.return_, 1) := by decide +kernel
def fX4_set (hf : Nat → Int32) (row : Int32) (col : Int32) (num : Int32) : Option (Nat → Int32) := (if row < 0 then some hf else (if 9 ≤ row then some hf else (if col < 0 then some hf else (if col < 9 then (if ¬ (((row * 9) + col) < 0 ∨ 81 ≤ ((row * 9) + col).toNatClampNeg) then some (upd hf ((row * 9) + col).toNatClampNeg num) else none) else some hf))))
abbrev hX4_set : Cond := .code yX4_set cX4_set 4 none
theorem mX4_set : yM yX4_set hX4_set 3 := ⟨u_682, u_59, by decide +kernel, by decide +kernel, by decide +kernel⟩
set_option maxHeartbeats 4000000 in
set_option maxRecDepth 100000 in
theorem kX4_set (l : Launch) (D : va_G) (cy : Nat → ClassId) (h : Nat) (hn : Nat) (hf : Nat → Int32) (row : Int32) (col : Int32) (num : Int32) {res : Nat → Int32} (hR : fX4_set hf row col num = some res) : YM l D cy yX4_set hX4_set 1 0 0 [.ref h, .int row, .int col, .int num] [[(h, .inr (6, [.ref hn]))], [(hn, .inl (cy 1, 81, .inl hf))]] (fun v u => v = none ∧ u = [[(h, .inr (6, [.ref hn]))], [(hn, .inl (cy 1, 81, .inl res))]]) := by
  unfold fX4_set at hR
  refine YM.ofV (cc := cX4_set) (maxL := 4) (ret := none) (by decide +kernel) rfl (Nat.le_of_ble_eq_true rfl) [(0, .ref h), (1, .int row), (2, .int col), (3, .int num)] rfl rfl (fun p e s m args below meth c A H0 Q C hnm ret => ?_)
  refine xr_iload_n (n := 1) (j := 1) C dX4_set_0 rfl rfl ?_
  refine xr_if_lt (tgt := 20) (n := 4) C dX4_set_1 rfl rfl (fun c_1 => ?_) (fun c_1 => ?_)
  · replace hR := yf_t c_1 hR
    obtain rfl := Option.some.inj hR
    exact ret ⟨rfl, rfl⟩ (Nat.le_of_ble_eq_true rfl) (Nat.le_of_ble_eq_true rfl) dX4_set_20
  · replace hR := yf_f c_1 hR
    refine xr_iload_n (n := 5) (j := 1) C dX4_set_4 rfl rfl ?_
    refine xr_bipush (n := 7) (v := 9) C dX4_set_5 rfl rfl ?_
    refine xr_icmp_ge (tgt := 20) (n := 10) C dX4_set_7 rfl rfl (fun c_2 => ?_) (fun c_2 => ?_)
    · replace hR := yf_t c_2 hR
      obtain rfl := Option.some.inj hR
      exact ret ⟨rfl, rfl⟩ (Nat.le_of_ble_eq_true rfl) (Nat.le_of_ble_eq_true rfl) dX4_set_20
    · replace hR := yf_f c_2 hR
      refine xr_iload_n (n := 11) (j := 2) C dX4_set_10 rfl rfl ?_
      refine xr_if_lt (tgt := 20) (n := 14) C dX4_set_11 rfl rfl (fun c_3 => ?_) (fun c_3 => ?_)
      · replace hR := yf_t c_3 hR
        obtain rfl := Option.some.inj hR
        exact ret ⟨rfl, rfl⟩ (Nat.le_of_ble_eq_true rfl) (Nat.le_of_ble_eq_true rfl) dX4_set_20
      · replace hR := yf_f c_3 hR
        refine xr_iload_n (n := 15) (j := 2) C dX4_set_14 rfl rfl ?_
        refine xr_bipush (n := 17) (v := 9) C dX4_set_15 rfl rfl ?_
        refine xr_icmp_lt (tgt := 21) (n := 20) C dX4_set_17 rfl rfl (fun c_4 => ?_) (fun c_4 => ?_)
        · replace hR := yf_t c_4 hR
          refine xr_aload_n (n := 22) (j := 0) C dX4_set_21 rfl rfl ?_
          refine xr_get (n := 25) C 0 rfl rfl 0 (by decide) in_X4 u_104 rfl (v := .ref hn) rfl dX4_set_22 rfl ?_
          refine xr_iload_n (n := 26) (j := 1) C dX4_set_25 rfl rfl ?_
          refine xr_bipush (n := 28) (v := 9) C dX4_set_26 rfl rfl ?_
          refine xr_imul (n := 29) C dX4_set_28 rfl ?_
          refine xr_iload_n (n := 30) (j := 2) C dX4_set_29 rfl rfl ?_
          refine xr_iadd (n := 31) C dX4_set_30 rfl ?_
          refine xr_iload_n (n := 32) (j := 3) C dX4_set_31 rfl rfl ?_
          obtain ⟨g_5, hR⟩ := yf_g hR
          refine xr_iast (n := 33) C 1 0 rfl rfl g_5 [[(h, .inr (6, [.ref hn]))], [(hn, .inl (cy 1, 81, .inl (upd hf ((row * 9) + col).toNatClampNeg num)))]] rfl dX4_set_32 rfl ?_
          obtain rfl := Option.some.inj hR
          exact ret ⟨rfl, rfl⟩ (Nat.le_of_ble_eq_true rfl) (Nat.le_of_ble_eq_true rfl) dX4_set_33
        · replace hR := yf_f c_4 hR
          obtain rfl := Option.some.inj hR
          exact ret ⟨rfl, rfl⟩ (Nat.le_of_ble_eq_true rfl) (Nat.le_of_ble_eq_true rfl) dX4_set_20
theorem dX4_fill_0 : decode cX4_fill 0 = .ok (.iconst 0, 1) := by decide +kernel
theorem dX4_fill_1 : decode cX4_fill 1 = .ok (.istore_n 2, 1) := by decide +kernel
theorem dX4_fill_2 : decode cX4_fill 2 = .ok (.iload_n 2, 1) := by decide +kernel
theorem dX4_fill_3 : decode cX4_fill 3 = .ok (.aload_n 0, 1) := by decide +kernel
theorem dX4_fill_4 : decode cX4_fill 4 = .ok (.getfield 9, 3) := by decide +kernel
theorem dX4_fill_7 : decode cX4_fill 7 = .ok (.arraylength, 1) := by decide +kernel
theorem dX4_fill_8 : decode cX4_fill 8 = .ok (.if_icmp .ge 16, 3) := by decide +kernel
theorem dX4_fill_11 : decode cX4_fill 11 = .ok (.aload_n 0, 1) := by decide +kernel
theorem dX4_fill_12 : decode cX4_fill 12 = .ok (.getfield 9, 3) := by decide +kernel
theorem dX4_fill_15 : decode cX4_fill 15 = .ok (.iload_n 2, 1) := by decide +kernel
theorem dX4_fill_16 : decode cX4_fill 16 = .ok (.iload_n 1, 1) := by decide +kernel
theorem dX4_fill_17 : decode cX4_fill 17 = .ok (.iastore, 1) := by decide +kernel
theorem dX4_fill_18 : decode cX4_fill 18 = .ok (.iinc 2 1, 3) := by decide +kernel
theorem dX4_fill_21 : decode cX4_fill 21 = .ok (.goto (-19), 3) := by decide +kernel
theorem dX4_fill_24 : decode cX4_fill 24 = .ok (.return_, 1) := by decide +kernel
def fX4_fill (hf : Nat → Int32) (num : Int32) : Option (Nat → Int32) := ((wl (S := Int32 × (Nat → Int32)) (B := Int32 × (Nat → Int32)) (fun s_1 => (if (nI 81) ≤ s_1.1 then some (.inr (s_1.1, s_1.2)) else (if ¬ (s_1.1 < 0 ∨ 81 ≤ s_1.1.toNatClampNeg) then some (.inl (s_1.1 + 1, upd s_1.2 s_1.1.toNatClampNeg num)) else none))) yFuel (0, hf)).bind fun b_1 => some b_1.2)
abbrev hX4_fill : Cond := .code yX4_fill cX4_fill 3 none
theorem mX4_fill : yM yX4_fill hX4_fill 1 := ⟨u_650, u_59, by decide +kernel, by decide +kernel, by decide +kernel⟩
set_option maxHeartbeats 4000000 in
set_option maxRecDepth 100000 in
theorem kX4_fill (l : Launch) (D : va_G) (cy : Nat → ClassId) (h : Nat) (hn : Nat) (hf : Nat → Int32) (num : Int32) {res : Nat → Int32} (hR : fX4_fill hf num = some res) : YM l D cy yX4_fill hX4_fill 1 0 0 [.ref h, .int num] [[(h, .inr (6, [.ref hn]))], [(hn, .inl (cy 1, 81, .inl hf))]] (fun v u => v = none ∧ u = [[(h, .inr (6, [.ref hn]))], [(hn, .inl (cy 1, 81, .inl res))]]) := by
  unfold fX4_fill at hR
  refine YM.ofV (cc := cX4_fill) (maxL := 3) (ret := none) (by decide +kernel) rfl (Nat.le_of_ble_eq_true rfl) [(0, .ref h), (1, .int num)] rfl rfl (fun p e s m args below meth c A H0 Q C hnm ret => ?_)
  refine xr_iconst (n := 1) (v := 0) C dX4_fill_0 rfl rfl ?_
  refine xr_istore_n (n := 2) C [(2, .int 0), (0, .ref h), (1, .int num)] dX4_fill_1 (by decide) rfl rfl ?_
  refine xr_lv (lv' := [(0, .ref h), (1, .int num), (2, .int 0)]) [1, 2, 0] rfl ?_
  obtain ⟨b_1, hb_1, hR⟩ := yf_b hR
  have K_1 : X p l e (yR 1 0 0) s m args below meth c D A H0 3 Q [[(h, .inr (6, [.ref hn]))], [(hn, .inl (cy 1, 81, .inl b_1.2))]] 0 0 [] 24 [] := by
    obtain rfl := Option.some.inj hR
    exact ret ⟨rfl, rfl⟩ (Nat.le_of_ble_eq_true rfl) (Nat.le_of_ble_eq_true rfl) dX4_fill_24
  refine y_loop (P := fun (s_1 : Int32 × (Nat → Int32)) => X p l e (yR 1 0 0) s m args below meth c D A H0 3 Q [[(h, .inr (6, [.ref hn]))], [(hn, .inl (cy 1, 81, .inl s_1.2))]] 0 0 [(0, .ref h), (1, .int num), (2, .int s_1.1)] 2 []) ?_ _ (0, hf) hb_1
  intro s_1 o_1 ho_1 hk_1 hx_1
  refine xr_iload_n (n := 3) (j := 2) C dX4_fill_2 rfl rfl ?_
  refine xr_aload_n (n := 4) (j := 0) C dX4_fill_3 rfl rfl ?_
  refine xr_get (n := 7) C 0 rfl rfl 0 (by decide) in_X4 u_104 rfl (v := .ref hn) rfl dX4_fill_4 rfl ?_
  refine xr_alen (n := 8) C 1 0 rfl 1 rfl rfl dX4_fill_7 rfl ?_
  refine xr_icmp_ge (tgt := 24) (n := 11) C dX4_fill_8 rfl rfl (fun c_2 => ?_) (fun c_2 => ?_)
  · replace ho_1 := yf_t c_2 ho_1
    refine xr_lv (lv' := []) [] rfl ?_
    have e_3 := hx_1 _ (Option.some.inj ho_1).symm
    subst e_3
    exact K_1
  · replace ho_1 := yf_f c_2 ho_1
    refine xr_aload_n (n := 12) (j := 0) C dX4_fill_11 rfl rfl ?_
    refine xr_get (n := 15) C 0 rfl rfl 0 (by decide) in_X4 u_104 rfl (v := .ref hn) rfl dX4_fill_12 rfl ?_
    refine xr_iload_n (n := 16) (j := 2) C dX4_fill_15 rfl rfl ?_
    refine xr_iload_n (n := 17) (j := 1) C dX4_fill_16 rfl rfl ?_
    obtain ⟨g_4, ho_1⟩ := yf_g ho_1
    refine xr_iast (n := 18) C 1 0 rfl rfl g_4 [[(h, .inr (6, [.ref hn]))], [(hn, .inl (cy 1, 81, .inl (upd s_1.2 s_1.1.toNatClampNeg num)))]] rfl dX4_fill_17 rfl ?_
    refine xr_iinc (j := 2) (v := s_1.1 + 1) (n := 21) C [(2, .int (s_1.1 + 1)), (0, .ref h), (1, .int num)] dX4_fill_18 rfl rfl (by decide) rfl rfl ?_
    refine xr_goto (tgt := 2) C dX4_fill_21 rfl ?_
    refine xr_lv (lv' := [(0, .ref h), (1, .int num), (2, .int (s_1.1 + 1))]) [1, 2, 0] rfl ?_
    exact hk_1 (s_1.1 + 1, upd s_1.2 s_1.1.toNatClampNeg num) (Option.some.inj ho_1).symm
theorem dX4_copyFrom_0 : decode cX4_copyFrom 0 = .ok (.iconst 0, 1) := by decide +kernel
theorem dX4_copyFrom_1 : decode cX4_copyFrom 1 = .ok (.istore_n 2, 1) := by decide +kernel
theorem dX4_copyFrom_2 : decode cX4_copyFrom 2 = .ok (.iload_n 2, 1) := by decide +kernel
theorem dX4_copyFrom_3 : decode cX4_copyFrom 3 = .ok (.aload_n 0, 1) := by decide +kernel
theorem dX4_copyFrom_4 : decode cX4_copyFrom 4 = .ok (.getfield 9, 3) := by decide +kernel
theorem dX4_copyFrom_7 : decode cX4_copyFrom 7 = .ok (.arraylength, 1) := by decide +kernel
theorem dX4_copyFrom_8 : decode cX4_copyFrom 8 = .ok (.if_icmp .ge 30, 3) := by decide +kernel
theorem dX4_copyFrom_11 : decode cX4_copyFrom 11 = .ok (.iload_n 2, 1) := by decide +kernel
theorem dX4_copyFrom_12 : decode cX4_copyFrom 12 = .ok (.aload_n 1, 1) := by decide +kernel
theorem dX4_copyFrom_13 : decode cX4_copyFrom 13 = .ok (.getfield 9, 3) := by decide +kernel
theorem dX4_copyFrom_16 : decode cX4_copyFrom 16 = .ok (.arraylength, 1) := by decide +kernel
theorem dX4_copyFrom_17 : decode cX4_copyFrom 17 = .ok (.if_icmp .ge 21, 3) := by decide +kernel
theorem dX4_copyFrom_20 : decode cX4_copyFrom 20 = .ok (.aload_n 0, 1) := by decide +kernel
theorem dX4_copyFrom_21 : decode cX4_copyFrom 21 = .ok (.getfield 9, 3) := by decide +kernel
theorem dX4_copyFrom_24 : decode cX4_copyFrom 24 = .ok (.iload_n 2, 1) := by decide +kernel
theorem dX4_copyFrom_25 : decode cX4_copyFrom 25 = .ok (.aload_n 1, 1) := by decide +kernel
theorem dX4_copyFrom_26 : decode cX4_copyFrom 26 = .ok (.getfield 9, 3) := by decide +kernel
theorem dX4_copyFrom_29 : decode cX4_copyFrom 29 = .ok (.iload_n 2, 1) := by decide +kernel
theorem dX4_copyFrom_30 : decode cX4_copyFrom 30 = .ok (.iaload, 1) := by decide +kernel
theorem dX4_copyFrom_31 : decode cX4_copyFrom 31 = .ok (.iastore, 1) := by decide +kernel
theorem dX4_copyFrom_32 : decode cX4_copyFrom 32 = .ok (.iinc 2 1, 3) := by decide +kernel
theorem dX4_copyFrom_35 : decode cX4_copyFrom 35 = .ok (.goto (-33), 3) := by decide +kernel
theorem dX4_copyFrom_38 : decode cX4_copyFrom 38 = .ok (.return_, 1) := by decide +kernel
def fX4_copyFrom (hf : Nat → Int32) (h2f : Nat → Int32) : Option (Nat → Int32) := ((wl (S := Int32 × (Nat → Int32)) (B := Int32 × (Nat → Int32)) (fun s_1 => (if (nI 81) ≤ s_1.1 then some (.inr (s_1.1, s_1.2)) else (if (nI 81) ≤ s_1.1 then some (.inr (s_1.1, s_1.2)) else (if ¬ (s_1.1 < 0 ∨ 81 ≤ s_1.1.toNatClampNeg) then (if ¬ (s_1.1 < 0 ∨ 81 ≤ s_1.1.toNatClampNeg) then some (.inl (s_1.1 + 1, upd s_1.2 s_1.1.toNatClampNeg (h2f s_1.1.toNatClampNeg))) else none) else none)))) yFuel (0, hf)).bind fun b_1 => some b_1.2)
abbrev hX4_copyFrom : Cond := .code yX4_copyFrom cX4_copyFrom 3 none
theorem mX4_copyFrom : yM yX4_copyFrom hX4_copyFrom 1 := ⟨u_770, u_59, by decide +kernel, by decide +kernel, by decide +kernel⟩
set_option maxHeartbeats 4000000 in
set_option maxRecDepth 100000 in
theorem kX4_copyFrom (l : Launch) (D : va_G) (cy : Nat → ClassId) (h : Nat) (hn : Nat) (hf : Nat → Int32) (h2 : Nat) (h2n : Nat) (h2f : Nat → Int32) {res : Nat → Int32} (hR : fX4_copyFrom hf h2f = some res) : YM l D cy yX4_copyFrom hX4_copyFrom 1 0 0 [.ref h, .ref h2] [[(h, .inr (6, [.ref hn]))], [(hn, .inl (cy 1, 81, .inl hf))], [(h2, .inr (6, [.ref h2n]))], [(h2n, .inl (cy 1, 81, .inl h2f))]] (fun v u => v = none ∧ u = [[(h, .inr (6, [.ref hn]))], [(hn, .inl (cy 1, 81, .inl res))], [(h2, .inr (6, [.ref h2n]))], [(h2n, .inl (cy 1, 81, .inl h2f))]]) := by
  unfold fX4_copyFrom at hR
  refine YM.ofV (cc := cX4_copyFrom) (maxL := 3) (ret := none) (by decide +kernel) rfl (Nat.le_of_ble_eq_true rfl) [(0, .ref h), (1, .ref h2)] rfl rfl (fun p e s m args below meth c A H0 Q C hnm ret => ?_)
  refine xr_iconst (n := 1) (v := 0) C dX4_copyFrom_0 rfl rfl ?_
  refine xr_istore_n (n := 2) C [(2, .int 0), (0, .ref h), (1, .ref h2)] dX4_copyFrom_1 (by decide) rfl rfl ?_
  refine xr_lv (lv' := [(0, .ref h), (1, .ref h2), (2, .int 0)]) [1, 2, 0] rfl ?_
  obtain ⟨b_1, hb_1, hR⟩ := yf_b hR
  have K_1 : X p l e (yR 1 0 0) s m args below meth c D A H0 3 Q [[(h, .inr (6, [.ref hn]))], [(hn, .inl (cy 1, 81, .inl b_1.2))], [(h2, .inr (6, [.ref h2n]))], [(h2n, .inl (cy 1, 81, .inl h2f))]] 0 0 [] 38 [] := by
    obtain rfl := Option.some.inj hR
    exact ret ⟨rfl, rfl⟩ (Nat.le_of_ble_eq_true rfl) (Nat.le_of_ble_eq_true rfl) dX4_copyFrom_38
  refine y_loop (P := fun (s_1 : Int32 × (Nat → Int32)) => X p l e (yR 1 0 0) s m args below meth c D A H0 3 Q [[(h, .inr (6, [.ref hn]))], [(hn, .inl (cy 1, 81, .inl s_1.2))], [(h2, .inr (6, [.ref h2n]))], [(h2n, .inl (cy 1, 81, .inl h2f))]] 0 0 [(0, .ref h), (1, .ref h2), (2, .int s_1.1)] 2 []) ?_ _ (0, hf) hb_1
  intro s_1 o_1 ho_1 hk_1 hx_1
  refine xr_iload_n (n := 3) (j := 2) C dX4_copyFrom_2 rfl rfl ?_
  refine xr_aload_n (n := 4) (j := 0) C dX4_copyFrom_3 rfl rfl ?_
  refine xr_get (n := 7) C 0 rfl rfl 0 (by decide) in_X4 u_104 rfl (v := .ref hn) rfl dX4_copyFrom_4 rfl ?_
  refine xr_alen (n := 8) C 1 0 rfl 1 rfl rfl dX4_copyFrom_7 rfl ?_
  refine xr_icmp_ge (tgt := 38) (n := 11) C dX4_copyFrom_8 rfl rfl (fun c_2 => ?_) (fun c_2 => ?_)
  · replace ho_1 := yf_t c_2 ho_1
    refine xr_lv (lv' := []) [] rfl ?_
    have e_3 := hx_1 _ (Option.some.inj ho_1).symm
    subst e_3
    exact K_1
  · replace ho_1 := yf_f c_2 ho_1
    refine xr_iload_n (n := 12) (j := 2) C dX4_copyFrom_11 rfl rfl ?_
    refine xr_aload_n (n := 13) (j := 1) C dX4_copyFrom_12 rfl rfl ?_
    refine xr_get (n := 16) C 2 rfl rfl 0 (by decide) in_X4 u_104 rfl (v := .ref h2n) rfl dX4_copyFrom_13 rfl ?_
    refine xr_alen (n := 17) C 3 0 rfl 1 rfl rfl dX4_copyFrom_16 rfl ?_
    refine xr_icmp_ge (tgt := 38) (n := 20) C dX4_copyFrom_17 rfl rfl (fun c_4 => ?_) (fun c_4 => ?_)
    · replace ho_1 := yf_t c_4 ho_1
      refine xr_lv (lv' := []) [] rfl ?_
      have e_5 := hx_1 _ (Option.some.inj ho_1).symm
      subst e_5
      exact K_1
    · replace ho_1 := yf_f c_4 ho_1
      refine xr_aload_n (n := 21) (j := 0) C dX4_copyFrom_20 rfl rfl ?_
      refine xr_get (n := 24) C 0 rfl rfl 0 (by decide) in_X4 u_104 rfl (v := .ref hn) rfl dX4_copyFrom_21 rfl ?_
      refine xr_iload_n (n := 25) (j := 2) C dX4_copyFrom_24 rfl rfl ?_
      refine xr_aload_n (n := 26) (j := 1) C dX4_copyFrom_25 rfl rfl ?_
      refine xr_get (n := 29) C 2 rfl rfl 0 (by decide) in_X4 u_104 rfl (v := .ref h2n) rfl dX4_copyFrom_26 rfl ?_
      refine xr_iload_n (n := 30) (j := 2) C dX4_copyFrom_29 rfl rfl ?_
      obtain ⟨g_6, ho_1⟩ := yf_g ho_1
      refine xr_iald (n := 31) C 3 0 rfl rfl g_6 dX4_copyFrom_30 rfl ?_
      obtain ⟨g_7, ho_1⟩ := yf_g ho_1
      refine xr_iast (n := 32) C 1 0 rfl rfl g_7 [[(h, .inr (6, [.ref hn]))], [(hn, .inl (cy 1, 81, .inl (upd s_1.2 s_1.1.toNatClampNeg (h2f s_1.1.toNatClampNeg))))], [(h2, .inr (6, [.ref h2n]))], [(h2n, .inl (cy 1, 81, .inl h2f))]] rfl dX4_copyFrom_31 rfl ?_
      refine xr_iinc (j := 2) (v := s_1.1 + 1) (n := 35) C [(2, .int (s_1.1 + 1)), (0, .ref h), (1, .ref h2)] dX4_copyFrom_32 rfl rfl (by decide) rfl rfl ?_
      refine xr_goto (tgt := 2) C dX4_copyFrom_35 rfl ?_
      refine xr_lv (lv' := [(0, .ref h), (1, .ref h2), (2, .int (s_1.1 + 1))]) [1, 2, 0] rfl ?_
      exact hk_1 (s_1.1 + 1, upd s_1.2 s_1.1.toNatClampNeg (h2f s_1.1.toNatClampNeg)) (Option.some.inj ho_1).symm
theorem dX0_bitOf_0 : decode cX0_bitOf 0 = .ok (.iconst 1, 1) := by decide +kernel
theorem dX0_bitOf_1 : decode cX0_bitOf 1 = .ok (.iload_n 0, 1) := by decide +kernel
theorem dX0_bitOf_2 : decode cX0_bitOf 2 = .ok (.iconst 5, 1) := by decide +kernel
theorem dX0_bitOf_3 : decode cX0_bitOf 3 = .ok (.imul, 1) := by decide +kernel
theorem dX0_bitOf_4 : decode cX0_bitOf 4 = .ok (.iload_n 1, 1) := by decide +kernel
theorem dX0_bitOf_5 : decode cX0_bitOf 5 = .ok (.iadd, 1) := by decide +kernel
theorem dX0_bitOf_6 : decode cX0_bitOf 6 = .ok (.ishl, 1) := by decide +kernel
theorem dX0_bitOf_7 : decode cX0_bitOf 7 = .ok (.ireturn, 1) := by decide +kernel
def fX0_bitOf (i1 : Int32) (i2 : Int32) : Option (Int32) := some ((1 : Int32) <<< (((i1 * 5) + i2) &&& 31))
abbrev hX0_bitOf : Cond := .code yX0_bitOf cX0_bitOf 2 (some .int)
theorem mX0_bitOf : yM yX0_bitOf hX0_bitOf 2 := ⟨u_491, u_60, by decide +kernel, by decide +kernel, by decide +kernel⟩
set_option maxHeartbeats 4000000 in
set_option maxRecDepth 100000 in
theorem kX0_bitOf (l : Launch) (D : va_G) (cy : Nat → ClassId) (i1 : Int32) (i2 : Int32) {res : Int32} (hR : fX0_bitOf i1 i2 = some res) : YM l D cy yX0_bitOf hX0_bitOf 1 0 0 [.int i1, .int i2] [] (fun v u => v = some (.int res) ∧ u = []) := by
  unfold fX0_bitOf at hR
  refine YM.ofI (cc := cX0_bitOf) (maxL := 2) (ret := (some .int)) (by decide +kernel) rfl (Nat.le_of_ble_eq_true rfl) [(0, .int i1), (1, .int i2)] rfl rfl (fun p e s m args below meth c A H0 Q C hnm ret => ?_)
  refine xr_iconst (n := 1) (v := 1) C dX0_bitOf_0 rfl rfl ?_
  refine xr_iload_n (n := 2) (j := 0) C dX0_bitOf_1 rfl rfl ?_
  refine xr_iconst (n := 3) (v := 5) C dX0_bitOf_2 rfl rfl ?_
  refine xr_imul (n := 4) C dX0_bitOf_3 rfl ?_
  refine xr_iload_n (n := 5) (j := 1) C dX0_bitOf_4 rfl rfl ?_
  refine xr_iadd (n := 6) C dX0_bitOf_5 rfl ?_
  refine xr_ishl (n := 7) C dX0_bitOf_6 rfl ?_
  obtain rfl := Option.some.inj hR
  exact ret ((1 : Int32) <<< (((i1 * 5) + i2) &&& 31)) ⟨rfl, rfl⟩ (Nat.le_of_ble_eq_true rfl) (Nat.le_of_ble_eq_true rfl) dX0_bitOf_7
