theorem u_1461 : Cond.constant RJ6 264 (65536) ∈ yU := yu_tables_1_6 205 (by decide +kernel) (by decide +kernel)
theorem u_1460 : Cond.code yJ6_numberOfTrailingZeros_0f7a4 cJ6_numberOfTrailingZeros_0f7a4 2 (some .int) ∈ yU := yu_tables_1_6 204 (by decide +kernel) (by decide +kernel)
theorem u_1300 : Cond.code yX9_isIn cX9_isIn 3 (some .boolean) ∈ yU := yu_tables_1_6 44 (by decide +kernel) (by decide +kernel)
theorem u_64 : Cond.initialized RX9 ∈ yU := yu_tables_1_1 8 (by decide +kernel) (by decide +kernel)
theorem u_1314 : Cond.code yX9_one cX9_one 1 (some .int) ∈ yU := yu_tables_1_6 58 (by decide +kernel) (by decide +kernel)
theorem u_1379 : Cond.code yX9_has cX9_has 2 (some .boolean) ∈ yU := yu_tables_1_6 123 (by decide +kernel) (by decide +kernel)
theorem u_1458 : Cond.methodLink RX9 1 yJ6_numberOfTrailingZeros_0f7a4 ∈ yU := yu_tables_1_6 202 (by decide +kernel) (by decide +kernel)
theorem u_1459 : Cond.static yJ6_numberOfTrailingZeros_0f7a4 ∈ yU := yu_tables_1_6 203 (by decide +kernel) (by decide +kernel)
theorem u_1457 : Cond.code yX9_nth cX9_nth 4 (some .int) ∈ yU := yu_tables_1_6 201 (by decide +kernel) (by decide +kernel)
theorem u_1200 : Cond.fieldLink RX8 7 "PulsemeshModel$Work" "\x72" "I" ∈ yU := yu_tables_1_5 184 (by decide +kernel) (by decide +kernel)
theorem u_1208 : Cond.fieldLink RX8 13 "PulsemeshModel$Work" "isChecked" "Z" ∈ yU := yu_tables_1_5 192 (by decide +kernel) (by decide +kernel)
theorem u_1313 : Cond.static yX9_one ∈ yU := yu_tables_1_6 57 (by decide +kernel) (by decide +kernel)
theorem u_1387 : Cond.code yX8_rows cX8_rows 1 (some .int) ∈ yU := yu_tables_1_6 131 (by decide +kernel) (by decide +kernel)
theorem u_65 : Cond.initialized RX8 ∈ yU := yu_tables_1_1 9 (by decide +kernel) (by decide +kernel)
theorem dJ6_numberOfTrailingZeros_0f7a4_0 : decode cJ6_numberOfTrailingZeros_0f7a4 0 = .ok (.iload_n 0, 1) := by decide +kernel
theorem dJ6_numberOfTrailingZeros_0f7a4_1 : decode cJ6_numberOfTrailingZeros_0f7a4 1 = .ok (.iconst (-1), 1) := by decide +kernel
theorem dJ6_numberOfTrailingZeros_0f7a4_2 : decode cJ6_numberOfTrailingZeros_0f7a4 2 = .ok (.ixor, 1) := by decide +kernel
theorem dJ6_numberOfTrailingZeros_0f7a4_3 : decode cJ6_numberOfTrailingZeros_0f7a4 3 = .ok (.iload_n 0, 1) := by decide +kernel
theorem dJ6_numberOfTrailingZeros_0f7a4_4 : decode cJ6_numberOfTrailingZeros_0f7a4 4 = .ok (.iconst 1, 1) := by decide +kernel
theorem dJ6_numberOfTrailingZeros_0f7a4_5 : decode cJ6_numberOfTrailingZeros_0f7a4 5 = .ok (.isub, 1) := by decide +kernel
theorem dJ6_numberOfTrailingZeros_0f7a4_6 : decode cJ6_numberOfTrailingZeros_0f7a4 6 = .ok (.iand, 1) := by decide +kernel
theorem dJ6_numberOfTrailingZeros_0f7a4_7 : decode cJ6_numberOfTrailingZeros_0f7a4 7 = .ok (.istore_n 0, 1) := by decide +kernel
theorem dJ6_numberOfTrailingZeros_0f7a4_8 : decode cJ6_numberOfTrailingZeros_0f7a4 8 = .ok (.iload_n 0, 1) := by decide +kernel
theorem dJ6_numberOfTrailingZeros_0f7a4_9 : decode cJ6_numberOfTrailingZeros_0f7a4 9 = .ok (.ifCond .gt 8, 3) := by decide +kernel
theorem dJ6_numberOfTrailingZeros_0f7a4_12 : decode cJ6_numberOfTrailingZeros_0f7a4 12 = .ok (.iload_n 0, 1) := by decide +kernel
theorem dJ6_numberOfTrailingZeros_0f7a4_13 : decode cJ6_numberOfTrailingZeros_0f7a4 13 = .ok (.bipush 32, 2) := by decide +kernel
theorem dJ6_numberOfTrailingZeros_0f7a4_15 : decode cJ6_numberOfTrailingZeros_0f7a4 15 = .ok (.iand, 1) := by decide +kernel
theorem dJ6_numberOfTrailingZeros_0f7a4_16 : decode cJ6_numberOfTrailingZeros_0f7a4 16 = .ok (.ireturn, 1) := by decide +kernel
theorem dJ6_numberOfTrailingZeros_0f7a4_17 : decode cJ6_numberOfTrailingZeros_0f7a4 17 = .ok (.iconst 1, 1) := by decide +kernel
theorem dJ6_numberOfTrailingZeros_0f7a4_18 : decode cJ6_numberOfTrailingZeros_0f7a4 18 = .ok (.istore_n 1, 1) := by decide +kernel
theorem dJ6_numberOfTrailingZeros_0f7a4_19 : decode cJ6_numberOfTrailingZeros_0f7a4 19 = .ok (.iload_n 0, 1) := by decide +kernel
theorem dJ6_numberOfTrailingZeros_0f7a4_20 : decode cJ6_numberOfTrailingZeros_0f7a4 20 = .ok (.ldc_w 264, 3) := by decide +kernel
theorem dJ6_numberOfTrailingZeros_0f7a4_23 : decode cJ6_numberOfTrailingZeros_0f7a4 23 = .ok (.if_icmp .le 11, 3) := by decide +kernel
theorem dJ6_numberOfTrailingZeros_0f7a4_26 : decode cJ6_numberOfTrailingZeros_0f7a4 26 = .ok (.iinc 1 16, 3) := by decide +kernel
theorem dJ6_numberOfTrailingZeros_0f7a4_29 : decode cJ6_numberOfTrailingZeros_0f7a4 29 = .ok (.iload_n 0, 1) := by decide +kernel
theorem dJ6_numberOfTrailingZeros_0f7a4_30 : decode cJ6_numberOfTrailingZeros_0f7a4 30 = .ok (.bipush 16, 2) := by decide +kernel
theorem dJ6_numberOfTrailingZeros_0f7a4_32 : decode cJ6_numberOfTrailingZeros_0f7a4 32 = .ok (.iushr, 1) := by decide +kernel
theorem dJ6_numberOfTrailingZeros_0f7a4_33 : decode cJ6_numberOfTrailingZeros_0f7a4 33 = .ok (.istore_n 0, 1) := by decide +kernel
theorem dJ6_numberOfTrailingZeros_0f7a4_34 : decode cJ6_numberOfTrailingZeros_0f7a4 34 = .ok (.iload_n 0, 1) := by decide +kernel
theorem dJ6_numberOfTrailingZeros_0f7a4_35 : decode cJ6_numberOfTrailingZeros_0f7a4 35 = .ok (.sipush 256, 3) := by decide +kernel
theorem dJ6_numberOfTrailingZeros_0f7a4_38 : decode cJ6_numberOfTrailingZeros_0f7a4 38 = .ok (.if_icmp .le 11, 3) := by decide +kernel
theorem dJ6_numberOfTrailingZeros_0f7a4_41 : decode cJ6_numberOfTrailingZeros_0f7a4 41 = .ok (.iinc 1 8, 3) := by decide +kernel
theorem dJ6_numberOfTrailingZeros_0f7a4_44 : decode cJ6_numberOfTrailingZeros_0f7a4 44 = .ok (.iload_n 0, 1) := by decide +kernel
theorem dJ6_numberOfTrailingZeros_0f7a4_45 : decode cJ6_numberOfTrailingZeros_0f7a4 45 = .ok (.bipush 8, 2) := by decide +kernel
theorem dJ6_numberOfTrailingZeros_0f7a4_47 : decode cJ6_numberOfTrailingZeros_0f7a4 47 = .ok (.iushr, 1) := by decide +kernel
theorem dJ6_numberOfTrailingZeros_0f7a4_48 : decode cJ6_numberOfTrailingZeros_0f7a4 48 = .ok (.istore_n 0, 1) := by decide +kernel
theorem dJ6_numberOfTrailingZeros_0f7a4_49 : decode cJ6_numberOfTrailingZeros_0f7a4 49 = .ok (.iload_n 0, 1) := by decide +kernel
theorem dJ6_numberOfTrailingZeros_0f7a4_50 : decode cJ6_numberOfTrailingZeros_0f7a4 50 = .ok (.bipush 16, 2) := by decide +kernel
theorem dJ6_numberOfTrailingZeros_0f7a4_52 : decode cJ6_numberOfTrailingZeros_0f7a4 52 = .ok (.if_icmp .le 10, 3) := by decide +kernel
theorem dJ6_numberOfTrailingZeros_0f7a4_55 : decode cJ6_numberOfTrailingZeros_0f7a4 55 = .ok (.iinc 1 4, 3) := by decide +kernel
theorem dJ6_numberOfTrailingZeros_0f7a4_58 : decode cJ6_numberOfTrailingZeros_0f7a4 58 = .ok (.iload_n 0, 1) := by decide +kernel
theorem dJ6_numberOfTrailingZeros_0f7a4_59 : decode cJ6_numberOfTrailingZeros_0f7a4 59 = .ok (.iconst 4, 1) := by decide +kernel
theorem dJ6_numberOfTrailingZeros_0f7a4_60 : decode cJ6_numberOfTrailingZeros_0f7a4 60 = .ok (.iushr, 1) := by decide +kernel
theorem dJ6_numberOfTrailingZeros_0f7a4_61 : decode cJ6_numberOfTrailingZeros_0f7a4 61 = .ok (.istore_n 0, 1) := by decide +kernel
theorem dJ6_numberOfTrailingZeros_0f7a4_62 : decode cJ6_numberOfTrailingZeros_0f7a4 62 = .ok (.iload_n 0, 1) := by decide +kernel
theorem dJ6_numberOfTrailingZeros_0f7a4_63 : decode cJ6_numberOfTrailingZeros_0f7a4 63 = .ok (.iconst 4, 1) := by decide +kernel
theorem dJ6_numberOfTrailingZeros_0f7a4_64 : decode cJ6_numberOfTrailingZeros_0f7a4 64 = .ok (.if_icmp .le 10, 3) := by decide +kernel
theorem dJ6_numberOfTrailingZeros_0f7a4_67 : decode cJ6_numberOfTrailingZeros_0f7a4 67 = .ok (.iinc 1 2, 3) := by decide +kernel
theorem dJ6_numberOfTrailingZeros_0f7a4_70 : decode cJ6_numberOfTrailingZeros_0f7a4 70 = .ok (.iload_n 0, 1) := by decide +kernel
theorem dJ6_numberOfTrailingZeros_0f7a4_71 : decode cJ6_numberOfTrailingZeros_0f7a4 71 = .ok (.iconst 2, 1) := by decide +kernel
theorem dJ6_numberOfTrailingZeros_0f7a4_72 : decode cJ6_numberOfTrailingZeros_0f7a4 72 = .ok (.iushr, 1) := by decide +kernel
theorem dJ6_numberOfTrailingZeros_0f7a4_73 : decode cJ6_numberOfTrailingZeros_0f7a4 73 = .ok (.istore_n 0, 1) := by decide +kernel
theorem dJ6_numberOfTrailingZeros_0f7a4_74 : decode cJ6_numberOfTrailingZeros_0f7a4 74 = .ok (.iload_n 1, 1) := by decide +kernel
theorem dJ6_numberOfTrailingZeros_0f7a4_75 : decode cJ6_numberOfTrailingZeros_0f7a4 75 = .ok (.iload_n 0, 1) := by decide +kernel
theorem dJ6_numberOfTrailingZeros_0f7a4_76 : decode cJ6_numberOfTrailingZeros_0f7a4 76 = .ok (.iconst 1, 1) := by decide +kernel
theorem dJ6_numberOfTrailingZeros_0f7a4_77 : decode cJ6_numberOfTrailingZeros_0f7a4 77 = .ok (.iushr, 1) := by decide +kernel
theorem dJ6_numberOfTrailingZeros_0f7a4_78 : decode cJ6_numberOfTrailingZeros_0f7a4 78 = .ok (.iadd, 1) := by decide +kernel
theorem dJ6_numberOfTrailingZeros_0f7a4_79 : decode cJ6_numberOfTrailingZeros_0f7a4 79 = .ok (.ireturn, 1) := by decide +kernel
def fJ6_numberOfTrailingZeros_0f7a4 (i1 : Int32) : Option (Int32) := (if 0 < ((i1 ^^^ (-1)) &&& (i1 - 1)) then ((((if ((i1 ^^^ (-1)) &&& (i1 - 1)) ≤ 65536 then some ((i1 ^^^ (-1)) &&& (i1 - 1), 1) else (ylet ((((i1 ^^^ (-1)) &&& (i1 - 1)).toUInt32 >>> ((16 : Int32).toUInt32 &&& Int32.toUInt32 31)).toInt32 : Int32) fun y_28 => some (y_28, 1 + 16))) : Option (Int32 × Int32))).bind fun r_4 => ((((if r_4.1 ≤ 256 then some (r_4.1, r_4.2) else (ylet ((r_4.1.toUInt32 >>> ((8 : Int32).toUInt32 &&& Int32.toUInt32 31)).toInt32 : Int32) fun y_24 => some (y_24, r_4.2 + 8))) : Option (Int32 × Int32))).bind fun r_7 => ((((if r_7.1 ≤ 16 then some (r_7.1, r_7.2) else (ylet ((r_7.1.toUInt32 >>> ((4 : Int32).toUInt32 &&& Int32.toUInt32 31)).toInt32 : Int32) fun y_20 => some (y_20, r_7.2 + 4))) : Option (Int32 × Int32))).bind fun r_10 => ((((if r_10.1 ≤ 4 then some (r_10.1, r_10.2) else (ylet ((r_10.1.toUInt32 >>> ((2 : Int32).toUInt32 &&& Int32.toUInt32 31)).toInt32 : Int32) fun y_16 => some (y_16, r_10.2 + 2))) : Option (Int32 × Int32))).bind fun r_13 => some (r_13.2 + ((r_13.1.toUInt32 >>> ((1 : Int32).toUInt32 &&& Int32.toUInt32 31)).toInt32)))))) else some (((i1 ^^^ (-1)) &&& (i1 - 1)) &&& 32))
abbrev hJ6_numberOfTrailingZeros_0f7a4 : Cond := .code yJ6_numberOfTrailingZeros_0f7a4 cJ6_numberOfTrailingZeros_0f7a4 2 (some .int)
theorem mJ6_numberOfTrailingZeros_0f7a4 : yM yJ6_numberOfTrailingZeros_0f7a4 hJ6_numberOfTrailingZeros_0f7a4 1 := ⟨u_1460, u_73, by decide +kernel, by decide +kernel, by decide +kernel⟩
set_option maxHeartbeats 4000000 in
set_option maxRecDepth 100000 in
theorem kJ6_numberOfTrailingZeros_0f7a4 (l : Launch) (D : va_G) (cy : Nat → ClassId) (i1 : Int32) {res : Int32} (hR : fJ6_numberOfTrailingZeros_0f7a4 i1 = some res) : YM l D cy yJ6_numberOfTrailingZeros_0f7a4 hJ6_numberOfTrailingZeros_0f7a4 1 0 0 [.int i1] [] (fun v u => v = some (.int res) ∧ u = []) := by
  unfold fJ6_numberOfTrailingZeros_0f7a4 at hR
  refine YM.ofI (cc := cJ6_numberOfTrailingZeros_0f7a4) (maxL := 2) (ret := (some .int)) (by decide +kernel) rfl (Nat.le_of_ble_eq_true rfl) [(0, .int i1)] rfl rfl (fun p e s m args below meth c A H0 Q C hnm ret => ?_)
  refine xr_iload_n (n := 1) (j := 0) C dJ6_numberOfTrailingZeros_0f7a4_0 rfl rfl ?_
  refine xr_iconst (n := 2) (v := -1) C dJ6_numberOfTrailingZeros_0f7a4_1 rfl rfl ?_
  refine xr_ixor (n := 3) C dJ6_numberOfTrailingZeros_0f7a4_2 rfl ?_
  refine xr_iload_n (n := 4) (j := 0) C dJ6_numberOfTrailingZeros_0f7a4_3 rfl rfl ?_
  refine xr_iconst (n := 5) (v := 1) C dJ6_numberOfTrailingZeros_0f7a4_4 rfl rfl ?_
  refine xr_isub (n := 6) C dJ6_numberOfTrailingZeros_0f7a4_5 rfl ?_
  refine xr_iand (n := 7) C dJ6_numberOfTrailingZeros_0f7a4_6 rfl ?_
  refine xr_istore_n (n := 8) C [(0, .int ((i1 ^^^ (-1)) &&& (i1 - 1)))] dJ6_numberOfTrailingZeros_0f7a4_7 (by decide) rfl rfl ?_
  refine xr_iload_n (n := 9) (j := 0) C dJ6_numberOfTrailingZeros_0f7a4_8 rfl rfl ?_
  refine xr_if_gt (tgt := 17) (n := 12) C dJ6_numberOfTrailingZeros_0f7a4_9 rfl rfl (fun c_1 => ?_) (fun c_1 => ?_)
  · replace hR := yf_t c_1 hR
    refine xr_iconst (n := 18) (v := 1) C dJ6_numberOfTrailingZeros_0f7a4_17 rfl rfl ?_
    refine xr_istore_n (n := 19) C [(1, .int 1), (0, .int ((i1 ^^^ (-1)) &&& (i1 - 1)))] dJ6_numberOfTrailingZeros_0f7a4_18 (by decide) rfl rfl ?_
    refine xr_iload_n (n := 20) (j := 1) C dJ6_numberOfTrailingZeros_0f7a4_19 rfl rfl ?_
    refine xr_ldcw (n := 23) (v := 65536) C u_1461 dJ6_numberOfTrailingZeros_0f7a4_20 rfl ?_
    obtain ⟨r_4, hE_4, hR⟩ := yf_b hR
    have J_4 : X p l e (yR 1 0 0) s m args below meth c D A H0 2 Q [] 0 0 [(0, .int r_4.1), (1, .int r_4.2)] 34 [] := by
      refine xr_iload_n (n := 35) (j := 0) C dJ6_numberOfTrailingZeros_0f7a4_34 rfl rfl ?_
      refine xr_sipush (n := 38) (v := 256) C dJ6_numberOfTrailingZeros_0f7a4_35 rfl rfl ?_
      obtain ⟨r_7, hE_7, hR⟩ := yf_b hR
      have J_7 : X p l e (yR 1 0 0) s m args below meth c D A H0 2 Q [] 0 0 [(0, .int r_7.1), (1, .int r_7.2)] 49 [] := by
        refine xr_iload_n (n := 50) (j := 0) C dJ6_numberOfTrailingZeros_0f7a4_49 rfl rfl ?_
        refine xr_bipush (n := 52) (v := 16) C dJ6_numberOfTrailingZeros_0f7a4_50 rfl rfl ?_
        obtain ⟨r_10, hE_10, hR⟩ := yf_b hR
        have J_10 : X p l e (yR 1 0 0) s m args below meth c D A H0 2 Q [] 0 0 [(0, .int r_10.1), (1, .int r_10.2)] 62 [] := by
          refine xr_iload_n (n := 63) (j := 0) C dJ6_numberOfTrailingZeros_0f7a4_62 rfl rfl ?_
          refine xr_iconst (n := 64) (v := 4) C dJ6_numberOfTrailingZeros_0f7a4_63 rfl rfl ?_
          obtain ⟨r_13, hE_13, hR⟩ := yf_b hR
          have J_13 : X p l e (yR 1 0 0) s m args below meth c D A H0 2 Q [] 0 0 [(0, .int r_13.1), (1, .int r_13.2)] 74 [] := by
            refine xr_iload_n (n := 75) (j := 1) C dJ6_numberOfTrailingZeros_0f7a4_74 rfl rfl ?_
            refine xr_iload_n (n := 76) (j := 0) C dJ6_numberOfTrailingZeros_0f7a4_75 rfl rfl ?_
            refine xr_iconst (n := 77) (v := 1) C dJ6_numberOfTrailingZeros_0f7a4_76 rfl rfl ?_
            refine xr_iushr (n := 78) C dJ6_numberOfTrailingZeros_0f7a4_77 rfl ?_
            refine xr_iadd (n := 79) C dJ6_numberOfTrailingZeros_0f7a4_78 rfl ?_
            obtain rfl := Option.some.inj hR
            exact ret (r_13.2 + ((r_13.1.toUInt32 >>> ((1 : Int32).toUInt32 &&& Int32.toUInt32 31)).toInt32)) ⟨rfl, rfl⟩ (Nat.le_of_ble_eq_true rfl) (Nat.le_of_ble_eq_true rfl) dJ6_numberOfTrailingZeros_0f7a4_79
          refine xr_icmp_le (tgt := 74) (n := 67) C dJ6_numberOfTrailingZeros_0f7a4_64 rfl rfl (fun c_14 => ?_) (fun c_14 => ?_)
          · replace hE_13 := yf_t c_14 hE_13
            have e_15 := Option.some.inj hE_13
            subst e_15
            exact J_13
          · replace hE_13 := yf_f c_14 hE_13
            refine xr_iinc (j := 1) (v := r_10.2 + 2) (n := 70) C [(1, .int (r_10.2 + 2)), (0, .int r_10.1)] dJ6_numberOfTrailingZeros_0f7a4_67 rfl rfl (by decide) rfl rfl ?_
            refine xr_iload_n (n := 71) (j := 1) C dJ6_numberOfTrailingZeros_0f7a4_70 rfl rfl ?_
            refine xr_iconst (n := 72) (v := 2) C dJ6_numberOfTrailingZeros_0f7a4_71 rfl rfl ?_
            refine xr_iushr (n := 73) C dJ6_numberOfTrailingZeros_0f7a4_72 rfl ?_
            obtain ⟨y_16, ey_16, hE_13⟩ := yf_l hE_13
            refine xr_topI ey_16 ?_
            refine xr_istore_n (n := 74) C [(0, .int y_16), (1, .int (r_10.2 + 2))] dJ6_numberOfTrailingZeros_0f7a4_73 (by decide) rfl rfl ?_
            have e_17 := Option.some.inj hE_13
            subst e_17
            exact J_13
        refine xr_icmp_le (tgt := 62) (n := 55) C dJ6_numberOfTrailingZeros_0f7a4_52 rfl rfl (fun c_18 => ?_) (fun c_18 => ?_)
        · replace hE_10 := yf_t c_18 hE_10
          have e_19 := Option.some.inj hE_10
          subst e_19
          exact J_10
        · replace hE_10 := yf_f c_18 hE_10
          refine xr_iinc (j := 1) (v := r_7.2 + 4) (n := 58) C [(1, .int (r_7.2 + 4)), (0, .int r_7.1)] dJ6_numberOfTrailingZeros_0f7a4_55 rfl rfl (by decide) rfl rfl ?_
          refine xr_iload_n (n := 59) (j := 1) C dJ6_numberOfTrailingZeros_0f7a4_58 rfl rfl ?_
          refine xr_iconst (n := 60) (v := 4) C dJ6_numberOfTrailingZeros_0f7a4_59 rfl rfl ?_
          refine xr_iushr (n := 61) C dJ6_numberOfTrailingZeros_0f7a4_60 rfl ?_
          obtain ⟨y_20, ey_20, hE_10⟩ := yf_l hE_10
          refine xr_topI ey_20 ?_
          refine xr_istore_n (n := 62) C [(0, .int y_20), (1, .int (r_7.2 + 4))] dJ6_numberOfTrailingZeros_0f7a4_61 (by decide) rfl rfl ?_
          have e_21 := Option.some.inj hE_10
          subst e_21
          exact J_10
      refine xr_icmp_le (tgt := 49) (n := 41) C dJ6_numberOfTrailingZeros_0f7a4_38 rfl rfl (fun c_22 => ?_) (fun c_22 => ?_)
      · replace hE_7 := yf_t c_22 hE_7
        have e_23 := Option.some.inj hE_7
        subst e_23
        exact J_7
      · replace hE_7 := yf_f c_22 hE_7
        refine xr_iinc (j := 1) (v := r_4.2 + 8) (n := 44) C [(1, .int (r_4.2 + 8)), (0, .int r_4.1)] dJ6_numberOfTrailingZeros_0f7a4_41 rfl rfl (by decide) rfl rfl ?_
        refine xr_iload_n (n := 45) (j := 1) C dJ6_numberOfTrailingZeros_0f7a4_44 rfl rfl ?_
        refine xr_bipush (n := 47) (v := 8) C dJ6_numberOfTrailingZeros_0f7a4_45 rfl rfl ?_
        refine xr_iushr (n := 48) C dJ6_numberOfTrailingZeros_0f7a4_47 rfl ?_
        obtain ⟨y_24, ey_24, hE_7⟩ := yf_l hE_7
        refine xr_topI ey_24 ?_
        refine xr_istore_n (n := 49) C [(0, .int y_24), (1, .int (r_4.2 + 8))] dJ6_numberOfTrailingZeros_0f7a4_48 (by decide) rfl rfl ?_
        have e_25 := Option.some.inj hE_7
        subst e_25
        exact J_7
    refine xr_icmp_le (tgt := 34) (n := 26) C dJ6_numberOfTrailingZeros_0f7a4_23 rfl rfl (fun c_26 => ?_) (fun c_26 => ?_)
    · replace hE_4 := yf_t c_26 hE_4
      refine xr_lv (lv' := [(0, .int ((i1 ^^^ (-1)) &&& (i1 - 1))), (1, .int 1)]) [1, 0] rfl ?_
      have e_27 := Option.some.inj hE_4
      subst e_27
      exact J_4
    · replace hE_4 := yf_f c_26 hE_4
      refine xr_iinc (j := 0) (v := 1 + 16) (n := 29) C [(1, .int (1 + 16)), (0, .int ((i1 ^^^ (-1)) &&& (i1 - 1)))] dJ6_numberOfTrailingZeros_0f7a4_26 rfl rfl (by decide) rfl rfl ?_
      refine xr_iload_n (n := 30) (j := 1) C dJ6_numberOfTrailingZeros_0f7a4_29 rfl rfl ?_
      refine xr_bipush (n := 32) (v := 16) C dJ6_numberOfTrailingZeros_0f7a4_30 rfl rfl ?_
      refine xr_iushr (n := 33) C dJ6_numberOfTrailingZeros_0f7a4_32 rfl ?_
      obtain ⟨y_28, ey_28, hE_4⟩ := yf_l hE_4
      refine xr_topI ey_28 ?_
      refine xr_istore_n (n := 34) C [(0, .int y_28), (1, .int (1 + 16))] dJ6_numberOfTrailingZeros_0f7a4_33 (by decide) rfl rfl ?_
      have e_29 := Option.some.inj hE_4
      subst e_29
      exact J_4
  · replace hR := yf_f c_1 hR
    refine xr_iload_n (n := 13) (j := 0) C dJ6_numberOfTrailingZeros_0f7a4_12 rfl rfl ?_
    refine xr_bipush (n := 15) (v := 32) C dJ6_numberOfTrailingZeros_0f7a4_13 rfl rfl ?_
    refine xr_iand (n := 16) C dJ6_numberOfTrailingZeros_0f7a4_15 rfl ?_
    obtain rfl := Option.some.inj hR
    exact ret (((i1 ^^^ (-1)) &&& (i1 - 1)) &&& 32) ⟨rfl, rfl⟩ (Nat.le_of_ble_eq_true rfl) (Nat.le_of_ble_eq_true rfl) dJ6_numberOfTrailingZeros_0f7a4_16
theorem dX9_isIn_0 : decode cX9_isIn 0 = .ok (.iload_n 0, 1) := by decide +kernel
theorem dX9_isIn_1 : decode cX9_isIn 1 = .ok (.iload_n 1, 1) := by decide +kernel
theorem dX9_isIn_2 : decode cX9_isIn 2 = .ok (.if_icmp .lt 12, 3) := by decide +kernel
theorem dX9_isIn_5 : decode cX9_isIn 5 = .ok (.iload_n 0, 1) := by decide +kernel
theorem dX9_isIn_6 : decode cX9_isIn 6 = .ok (.iload_n 2, 1) := by decide +kernel
theorem dX9_isIn_7 : decode cX9_isIn 7 = .ok (.if_icmp .gt 7, 3) := by decide +kernel
theorem dX9_isIn_10 : decode cX9_isIn 10 = .ok (.iconst 1, 1) := by decide +kernel
theorem dX9_isIn_11 : decode cX9_isIn 11 = .ok (.goto 4, 3) := by decide +kernel
theorem dX9_isIn_14 : decode cX9_isIn 14 = .ok (.iconst 0, 1) := by decide +kernel
theorem dX9_isIn_15 : decode cX9_isIn 15 = .ok (.ireturn, 1) := by decide +kernel
def fX9_isIn (i1 : Int32) (i2 : Int32) (i3 : Int32) : Option (Int32) := (if i1 < i2 then some 0 else (if i3 < i1 then some 0 else some 1))
abbrev hX9_isIn : Cond := .code yX9_isIn cX9_isIn 3 (some .boolean)
theorem mX9_isIn : yM yX9_isIn hX9_isIn 3 := ⟨u_1300, u_64, by decide +kernel, by decide +kernel, by decide +kernel⟩
set_option maxHeartbeats 4000000 in
set_option maxRecDepth 100000 in
theorem kX9_isIn (l : Launch) (D : va_G) (cy : Nat → ClassId) (i1 : Int32) (i2 : Int32) (i3 : Int32) {res : Int32} (hR : fX9_isIn i1 i2 i3 = some res) : YM l D cy yX9_isIn hX9_isIn 1 0 0 [.int i1, .int i2, .int i3] [] (fun v u => v = some (.int res) ∧ u = []) := by
  unfold fX9_isIn at hR
  refine YM.ofZ (cc := cX9_isIn) (maxL := 3) (ret := (some .boolean)) (by decide +kernel) rfl (Nat.le_of_ble_eq_true rfl) [(0, .int i1), (1, .int i2), (2, .int i3)] rfl .boolean rfl (fun p e s m args below meth c A H0 Q C hnm ret => ?_)
  refine xr_iload_n (n := 1) (j := 0) C dX9_isIn_0 rfl rfl ?_
  refine xr_iload_n (n := 2) (j := 1) C dX9_isIn_1 rfl rfl ?_
  refine xr_icmp_lt (tgt := 14) (n := 5) C dX9_isIn_2 rfl rfl (fun c_1 => ?_) (fun c_1 => ?_)
  · replace hR := yf_t c_1 hR
    refine xr_iconst (n := 15) (v := 0) C dX9_isIn_14 rfl rfl ?_
    obtain rfl := Option.some.inj hR
    exact ret 0 (by decide) ⟨rfl, rfl⟩ (Nat.le_of_ble_eq_true rfl) (Nat.le_of_ble_eq_true rfl) dX9_isIn_15
  · replace hR := yf_f c_1 hR
    refine xr_iload_n (n := 6) (j := 0) C dX9_isIn_5 rfl rfl ?_
    refine xr_iload_n (n := 7) (j := 2) C dX9_isIn_6 rfl rfl ?_
    refine xr_icmp_gt (tgt := 14) (n := 10) C dX9_isIn_7 rfl rfl (fun c_2 => ?_) (fun c_2 => ?_)
    · replace hR := yf_t c_2 hR
      refine xr_iconst (n := 15) (v := 0) C dX9_isIn_14 rfl rfl ?_
      obtain rfl := Option.some.inj hR
      exact ret 0 (by decide) ⟨rfl, rfl⟩ (Nat.le_of_ble_eq_true rfl) (Nat.le_of_ble_eq_true rfl) dX9_isIn_15
    · replace hR := yf_f c_2 hR
      refine xr_iconst (n := 11) (v := 1) C dX9_isIn_10 rfl rfl ?_
      refine xr_goto (tgt := 15) C dX9_isIn_11 rfl ?_
      obtain rfl := Option.some.inj hR
      exact ret 1 (by decide) ⟨rfl, rfl⟩ (Nat.le_of_ble_eq_true rfl) (Nat.le_of_ble_eq_true rfl) dX9_isIn_15
theorem dX9_one_0 : decode cX9_one 0 = .ok (.iload_n 0, 1) := by decide +kernel
theorem dX9_one_1 : decode cX9_one 1 = .ok (.ifCond .eq 7, 3) := by decide +kernel
theorem dX9_one_4 : decode cX9_one 4 = .ok (.iconst 1, 1) := by decide +kernel
theorem dX9_one_5 : decode cX9_one 5 = .ok (.goto 4, 3) := by decide +kernel
theorem dX9_one_8 : decode cX9_one 8 = .ok (.iconst 0, 1) := by decide +kernel
theorem dX9_one_9 : decode cX9_one 9 = .ok (.ireturn, 1) := by decide +kernel
def fX9_one (i1 : Int32) : Option (Int32) := (if i1 = 0 then some 0 else some 1)
abbrev hX9_one : Cond := .code yX9_one cX9_one 1 (some .int)
theorem mX9_one : yM yX9_one hX9_one 1 := ⟨u_1314, u_64, by decide +kernel, by decide +kernel, by decide +kernel⟩
set_option maxHeartbeats 4000000 in
set_option maxRecDepth 100000 in
theorem kX9_one (l : Launch) (D : va_G) (cy : Nat → ClassId) (i1 : Int32) {res : Int32} (hR : fX9_one i1 = some res) : YM l D cy yX9_one hX9_one 1 0 0 [.int i1] [] (fun v u => v = some (.int res) ∧ u = []) := by
  unfold fX9_one at hR
  refine YM.ofI (cc := cX9_one) (maxL := 1) (ret := (some .int)) (by decide +kernel) rfl (Nat.le_of_ble_eq_true rfl) [(0, .int i1)] rfl rfl (fun p e s m args below meth c A H0 Q C hnm ret => ?_)
  refine xr_iload_n (n := 1) (j := 0) C dX9_one_0 rfl rfl ?_
  refine xr_if_eq (tgt := 8) (n := 4) C dX9_one_1 rfl rfl (fun c_1 => ?_) (fun c_1 => ?_)
  · replace hR := yf_t c_1 hR
    refine xr_iconst (n := 9) (v := 0) C dX9_one_8 rfl rfl ?_
    obtain rfl := Option.some.inj hR
    exact ret 0 ⟨rfl, rfl⟩ (Nat.le_of_ble_eq_true rfl) (Nat.le_of_ble_eq_true rfl) dX9_one_9
  · replace hR := yf_f c_1 hR
    refine xr_iconst (n := 5) (v := 1) C dX9_one_4 rfl rfl ?_
    refine xr_goto (tgt := 9) C dX9_one_5 rfl ?_
    obtain rfl := Option.some.inj hR
    exact ret 1 ⟨rfl, rfl⟩ (Nat.le_of_ble_eq_true rfl) (Nat.le_of_ble_eq_true rfl) dX9_one_9
theorem dX9_has_0 : decode cX9_has 0 = .ok (.iload_n 0, 1) := by decide +kernel
theorem dX9_has_1 : decode cX9_has 1 = .ok (.iload_n 1, 1) := by decide +kernel
theorem dX9_has_2 : decode cX9_has 2 = .ok (.ishr, 1) := by decide +kernel
theorem dX9_has_3 : decode cX9_has 3 = .ok (.iconst 1, 1) := by decide +kernel
theorem dX9_has_4 : decode cX9_has 4 = .ok (.iand, 1) := by decide +kernel
theorem dX9_has_5 : decode cX9_has 5 = .ok (.iconst 1, 1) := by decide +kernel
theorem dX9_has_6 : decode cX9_has 6 = .ok (.if_icmp .ne 7, 3) := by decide +kernel
theorem dX9_has_9 : decode cX9_has 9 = .ok (.iconst 1, 1) := by decide +kernel
theorem dX9_has_10 : decode cX9_has 10 = .ok (.goto 4, 3) := by decide +kernel
theorem dX9_has_13 : decode cX9_has 13 = .ok (.iconst 0, 1) := by decide +kernel
theorem dX9_has_14 : decode cX9_has 14 = .ok (.ireturn, 1) := by decide +kernel
def fX9_has (i1 : Int32) (i2 : Int32) : Option (Int32) := (if ((i1 >>> (i2 &&& 31)) &&& 1) = 1 then some 1 else some 0)
abbrev hX9_has : Cond := .code yX9_has cX9_has 2 (some .boolean)
theorem mX9_has : yM yX9_has hX9_has 2 := ⟨u_1379, u_64, by decide +kernel, by decide +kernel, by decide +kernel⟩
set_option maxHeartbeats 4000000 in
set_option maxRecDepth 100000 in
theorem kX9_has (l : Launch) (D : va_G) (cy : Nat → ClassId) (i1 : Int32) (i2 : Int32) {res : Int32} (hR : fX9_has i1 i2 = some res) : YM l D cy yX9_has hX9_has 1 0 0 [.int i1, .int i2] [] (fun v u => v = some (.int res) ∧ u = []) := by
  unfold fX9_has at hR
  refine YM.ofZ (cc := cX9_has) (maxL := 2) (ret := (some .boolean)) (by decide +kernel) rfl (Nat.le_of_ble_eq_true rfl) [(0, .int i1), (1, .int i2)] rfl .boolean rfl (fun p e s m args below meth c A H0 Q C hnm ret => ?_)
  refine xr_iload_n (n := 1) (j := 0) C dX9_has_0 rfl rfl ?_
  refine xr_iload_n (n := 2) (j := 1) C dX9_has_1 rfl rfl ?_
  refine xr_ishr (n := 3) C dX9_has_2 rfl ?_
  refine xr_iconst (n := 4) (v := 1) C dX9_has_3 rfl rfl ?_
  refine xr_iand (n := 5) C dX9_has_4 rfl ?_
  refine xr_iconst (n := 6) (v := 1) C dX9_has_5 rfl rfl ?_
  refine xr_icmp_ne (tgt := 13) (n := 9) C dX9_has_6 rfl rfl (fun c_1 => ?_) (fun c_1 => ?_)
  · replace hR := yf_f c_1 hR
    refine xr_iconst (n := 14) (v := 0) C dX9_has_13 rfl rfl ?_
    obtain rfl := Option.some.inj hR
    exact ret 0 (by decide) ⟨rfl, rfl⟩ (Nat.le_of_ble_eq_true rfl) (Nat.le_of_ble_eq_true rfl) dX9_has_14
  · replace hR := yf_t c_1 hR
    refine xr_iconst (n := 10) (v := 1) C dX9_has_9 rfl rfl ?_
    refine xr_goto (tgt := 14) C dX9_has_10 rfl ?_
    obtain rfl := Option.some.inj hR
    exact ret 1 (by decide) ⟨rfl, rfl⟩ (Nat.le_of_ble_eq_true rfl) (Nat.le_of_ble_eq_true rfl) dX9_has_14
theorem dX9_nth_0 : decode cX9_nth 0 = .ok (.iload_n 0, 1) := by decide +kernel
theorem dX9_nth_1 : decode cX9_nth 1 = .ok (.istore_n 2, 1) := by decide +kernel
theorem dX9_nth_2 : decode cX9_nth 2 = .ok (.iconst 0, 1) := by decide +kernel
theorem dX9_nth_3 : decode cX9_nth 3 = .ok (.istore_n 3, 1) := by decide +kernel
theorem dX9_nth_4 : decode cX9_nth 4 = .ok (.iload_n 3, 1) := by decide +kernel
theorem dX9_nth_5 : decode cX9_nth 5 = .ok (.iload_n 1, 1) := by decide +kernel
theorem dX9_nth_6 : decode cX9_nth 6 = .ok (.if_icmp .ge 15, 3) := by decide +kernel
theorem dX9_nth_9 : decode cX9_nth 9 = .ok (.iload_n 2, 1) := by decide +kernel
theorem dX9_nth_10 : decode cX9_nth 10 = .ok (.iload_n 2, 1) := by decide +kernel
theorem dX9_nth_11 : decode cX9_nth 11 = .ok (.iconst 1, 1) := by decide +kernel
theorem dX9_nth_12 : decode cX9_nth 12 = .ok (.isub, 1) := by decide +kernel
theorem dX9_nth_13 : decode cX9_nth 13 = .ok (.iand, 1) := by decide +kernel
theorem dX9_nth_14 : decode cX9_nth 14 = .ok (.istore_n 2, 1) := by decide +kernel
theorem dX9_nth_15 : decode cX9_nth 15 = .ok (.iinc 3 1, 3) := by decide +kernel
theorem dX9_nth_18 : decode cX9_nth 18 = .ok (.goto (-14), 3) := by decide +kernel
theorem dX9_nth_21 : decode cX9_nth 21 = .ok (.iload_n 2, 1) := by decide +kernel
theorem dX9_nth_22 : decode cX9_nth 22 = .ok (.invokestatic 1, 3) := by decide +kernel
theorem dX9_nth_25 : decode cX9_nth 25 = .ok (.ireturn, 1) := by decide +kernel
def fX9_nth (i1 : Int32) (i2 : Int32) : Option (Int32) := ((wl (S := Int32 × Int32) (B := Int32 × Int32) (fun s_1 => (if i2 ≤ s_1.2 then some (.inr (s_1.1, s_1.2)) else some (.inl (s_1.1 &&& (s_1.1 - 1), s_1.2 + 1)))) yFuel (i1, 0)).bind fun b_1 => ((fJ6_numberOfTrailingZeros_0f7a4 b_1.1).bind fun x_2 => some x_2))
abbrev hX9_nth : Cond := .code yX9_nth cX9_nth 4 (some .int)
theorem mX9_nth : yM yX9_nth hX9_nth 2 := ⟨u_1457, u_64, by decide +kernel, by decide +kernel, by decide +kernel⟩
set_option maxHeartbeats 4000000 in
set_option maxRecDepth 100000 in
theorem kX9_nth (l : Launch) (D : va_G) (cy : Nat → ClassId) (i1 : Int32) (i2 : Int32) {res : Int32} (hR : fX9_nth i1 i2 = some res) : YM l D cy yX9_nth hX9_nth 2 0 0 [.int i1, .int i2] [] (fun v u => v = some (.int res) ∧ u = []) := by
  unfold fX9_nth at hR
  refine YM.ofI (cc := cX9_nth) (maxL := 4) (ret := (some .int)) (by decide +kernel) rfl (Nat.le_of_ble_eq_true rfl) [(0, .int i1), (1, .int i2)] rfl rfl (fun p e s m args below meth c A H0 Q C hnm ret => ?_)
  refine xr_iload_n (n := 1) (j := 0) C dX9_nth_0 rfl rfl ?_
  refine xr_istore_n (n := 2) C [(2, .int i1), (0, .int i1), (1, .int i2)] dX9_nth_1 (by decide) rfl rfl ?_
  refine xr_iconst (n := 3) (v := 0) C dX9_nth_2 rfl rfl ?_
  refine xr_istore_n (n := 4) C [(3, .int 0), (2, .int i1), (0, .int i1), (1, .int i2)] dX9_nth_3 (by decide) rfl rfl ?_
  refine xr_lv (lv' := [(1, .int i2), (2, .int i1), (3, .int 0)]) [3, 1, 0] rfl ?_
  obtain ⟨b_1, hb_1, hR⟩ := yf_b hR
  have K_1 : X p l e (yR 2 0 0) s m args below meth c D A H0 4 Q [] 0 0 [(2, .int b_1.1)] 21 [] := by
    refine xr_iload_n (n := 22) (j := 0) C dX9_nth_21 rfl rfl ?_
    obtain ⟨x_2, hx_2, hR⟩ := yf_b hR
    refine xr_callSp (n := 25) (As := [.int b_1.1]) (rest := []) C (kJ6_numberOfTrailingZeros_0f7a4 l D cy (i1 := b_1.1) hx_2) mJ6_numberOfTrailingZeros_0f7a4 u_1458 u_1459 0 [] [] rfl (by decide +kernel) rfl rfl rfl rfl (Nat.le_of_ble_eq_true rfl) (Nat.le_of_ble_eq_true rfl) (Nat.le_of_ble_eq_true rfl) (Nat.le_of_ble_eq_true rfl) (Nat.le_of_ble_eq_true rfl) dX9_nth_22 rfl (fun _ _ hp => hp.2) (fun v_3 hp_5 => ?_)
    obtain ⟨rfl, -⟩ := hp_5
    refine xr_st (st' := [.int x_2]) rfl ?_
    obtain rfl := Option.some.inj hR
    exact ret x_2 ⟨rfl, rfl⟩ (Nat.le_of_ble_eq_true rfl) (Nat.le_of_ble_eq_true rfl) dX9_nth_25
  refine y_loop (P := fun (s_1 : Int32 × Int32) => X p l e (yR 2 0 0) s m args below meth c D A H0 4 Q [] 0 0 [(1, .int i2), (2, .int s_1.1), (3, .int s_1.2)] 4 []) ?_ _ (i1, 0) hb_1
  intro s_1 o_1 ho_1 hk_1 hx_1
  refine xr_iload_n (n := 5) (j := 2) C dX9_nth_4 rfl rfl ?_
  refine xr_iload_n (n := 6) (j := 0) C dX9_nth_5 rfl rfl ?_
  refine xr_icmp_ge (tgt := 21) (n := 9) C dX9_nth_6 rfl rfl (fun c_6 => ?_) (fun c_6 => ?_)
  · replace ho_1 := yf_t c_6 ho_1
    refine xr_lv (lv' := [(2, .int s_1.1)]) [1] rfl ?_
    have e_7 := hx_1 _ (Option.some.inj ho_1).symm
    subst e_7
    exact K_1
  · replace ho_1 := yf_f c_6 ho_1
    refine xr_iload_n (n := 10) (j := 1) C dX9_nth_9 rfl rfl ?_
    refine xr_iload_n (n := 11) (j := 1) C dX9_nth_10 rfl rfl ?_
    refine xr_iconst (n := 12) (v := 1) C dX9_nth_11 rfl rfl ?_
    refine xr_isub (n := 13) C dX9_nth_12 rfl ?_
    refine xr_iand (n := 14) C dX9_nth_13 rfl ?_
    refine xr_istore_n (n := 15) C [(2, .int (s_1.1 &&& (s_1.1 - 1))), (1, .int i2), (3, .int s_1.2)] dX9_nth_14 (by decide) rfl rfl ?_
    refine xr_iinc (j := 2) (v := s_1.2 + 1) (n := 18) C [(3, .int (s_1.2 + 1)), (2, .int (s_1.1 &&& (s_1.1 - 1))), (1, .int i2)] dX9_nth_15 rfl rfl (by decide) rfl rfl ?_
    refine xr_goto (tgt := 4) C dX9_nth_18 rfl ?_
    refine xr_lv (lv' := [(1, .int i2), (2, .int (s_1.1 &&& (s_1.1 - 1))), (3, .int (s_1.2 + 1))]) [2, 1, 0] rfl ?_
    exact hk_1 (s_1.1 &&& (s_1.1 - 1), s_1.2 + 1) (Option.some.inj ho_1).symm
theorem dX8_rows_0 : decode cX8_rows 0 = .ok (.aload_n 0, 1) := by decide +kernel
theorem dX8_rows_1 : decode cX8_rows 1 = .ok (.getfield 7, 3) := by decide +kernel
theorem dX8_rows_4 : decode cX8_rows 4 = .ok (.aload_n 0, 1) := by decide +kernel
theorem dX8_rows_5 : decode cX8_rows 5 = .ok (.getfield 13, 3) := by decide +kernel
theorem dX8_rows_8 : decode cX8_rows 8 = .ok (.invokestatic 17, 3) := by decide +kernel
theorem dX8_rows_11 : decode cX8_rows 11 = .ok (.iadd, 1) := by decide +kernel
theorem dX8_rows_12 : decode cX8_rows 12 = .ok (.ireturn, 1) := by decide +kernel
def fX8_rows (wr : Int32) (ws : Int32) : Option (Int32) := ((fX9_one ws).bind fun x_1 => some (wr + x_1))
abbrev hX8_rows : Cond := .code yX8_rows cX8_rows 1 (some .int)
theorem mX8_rows : yM yX8_rows hX8_rows 0 := ⟨u_1387, u_65, by decide +kernel, by decide +kernel, by decide +kernel⟩
set_option maxHeartbeats 4000000 in
set_option maxRecDepth 100000 in
theorem kX8_rows (l : Launch) (D : va_G) (cy : Nat → ClassId) (w : Nat) (wr : Int32) (wk : Int32) (wc : Int32) (wg : Int32) (ws : Int32) (wa : Nat) (wb : Nat) {res : Int32} (hR : fX8_rows wr ws = some res) : YM l D cy yX8_rows hX8_rows 2 0 0 [.ref w] [[(w, .inr (10, [.int wr, .int wk, .int wc, .int wg, .int ws, .ref wa, .ref wb]))]] (fun v u => v = some (.int res) ∧ u = [[(w, .inr (10, [.int wr, .int wk, .int wc, .int wg, .int ws, .ref wa, .ref wb]))]]) := by
  unfold fX8_rows at hR
  refine YM.ofI (cc := cX8_rows) (maxL := 1) (ret := (some .int)) (by decide +kernel) rfl (Nat.le_of_ble_eq_true rfl) [(0, .ref w)] rfl rfl (fun p e s m args below meth c A H0 Q C hnm ret => ?_)
  refine xr_aload_n (n := 1) (j := 0) C dX8_rows_0 rfl rfl ?_
  refine xr_get (n := 4) C 0 rfl rfl 0 (by decide) in_X8 u_1200 rfl (v := .int wr) rfl dX8_rows_1 rfl ?_
  refine xr_aload_n (n := 5) (j := 0) C dX8_rows_4 rfl rfl ?_
  refine xr_get (n := 8) C 0 rfl rfl 4 (by decide) in_X8 u_1208 rfl (v := .int ws) rfl dX8_rows_5 rfl ?_
  obtain ⟨x_1, hx_1, hR⟩ := yf_b hR
  refine xr_callSNp (n := 11) (As := [.int ws]) (rest := [.int wr]) C (kX9_one l D cy (i1 := ws) hx_1) mX9_one (host := RX9) (List.mem_of_getElem? (i := 60) rfl) u_1313 1 [] [0] rfl (by decide +kernel) rfl rfl rfl rfl (Nat.le_of_ble_eq_true rfl) (Nat.le_of_ble_eq_true rfl) (Nat.le_of_ble_eq_true rfl) (Nat.le_of_ble_eq_true rfl) (Nat.le_of_ble_eq_true rfl) dX8_rows_8 rfl (fun _ _ hp => hp.2) (fun v_2 hp_4 => ?_)
  obtain ⟨rfl, -⟩ := hp_4
  refine xr_st (st' := [.int x_1, .int wr]) rfl ?_
  refine xr_iadd (n := 12) C dX8_rows_11 rfl ?_
  obtain rfl := Option.some.inj hR
  exact ret (wr + x_1) ⟨rfl, rfl⟩ (Nat.le_of_ble_eq_true rfl) (Nat.le_of_ble_eq_true rfl) dX8_rows_12
