theorem u_1461 : Cond.constant RJ6 264 (65536) ∈ yU := yu_tables_1_6 205 (by decide +kernel) (by decide +kernel)
theorem u_1460 : Cond.code yJ6_numberOfTrailingZeros_0f7a4 cJ6_numberOfTrailingZeros_0f7a4 2 (some .int) ∈ yU := yu_tables_1_6 204 (by decide +kernel) (by decide +kernel)
theorem u_1300 : Cond.code yX9_isIn cX9_isIn 3 (some .boolean) ∈ yU := yu_tables_1_6 44 (by decide +kernel) (by decide +kernel)
theorem u_64 : Cond.initialized RX9 ∈ yU := yu_tables_1_1 8 (by decide +kernel) (by decide +kernel)
theorem u_1314 : Cond.code yX9_one cX9_one 1 (some .int) ∈ yU := yu_tables_1_6 58 (by decide +kernel) (by decide +kernel)
theorem u_1379 : Cond.code yX9_has cX9_has 2 (some .boolean) ∈ yU := yu_tables_1_6 123 (by decide +kernel) (by decide +kernel)
theorem u_1458 : Cond.methodLink RX9 1 yJ6_numberOfTrailingZeros_0f7a4 ∈ yU := yu_tables_1_6 202 (by decide +kernel) (by decide +kernel)
theorem u_1459 : Cond.static yJ6_numberOfTrailingZeros_0f7a4 ∈ yU := yu_tables_1_6 203 (by decide +kernel) (by decide +kernel)
theorem u_1457 : Cond.code yX9_nth cX9_nth 4 (some .int) ∈ yU := yu_tables_1_6 201 (by decide +kernel) (by decide +kernel)
theorem u_1200 : Cond.fieldLink RX8 7 "PulsemeshModel$Work" "\x72" "I" ∈ yU := yu_tables_1_5 184 (by decide +kernel) (by decide +kernel)
theorem u_1208 : Cond.fieldLink RX8 13 "PulsemeshModel$Work" "isChecked" "Z" ∈ yU := yu_tables_1_5 192 (by decide +kernel) (by decide +kernel)
theorem u_1313 : Cond.static yX9_one ∈ yU := yu_tables_1_6 57 (by decide +kernel) (by decide +kernel)
theorem u_1387 : Cond.code yX8_rows cX8_rows 1 (some .int) ∈ yU := yu_tables_1_6 131 (by decide +kernel) (by decide +kernel)
theorem u_65 : Cond.initialized RX8 ∈ yU := yu_tables_1_1 9 (by decide +kernel) (by decide +kernel)
theorem dd_J6_numberOfTrailingZeros_0f7a4_0 : dk_R cJ6_numberOfTrailingZeros_0f7a4 [(0, .iload_n 0, 1), (1, .iconst (-1), 1), (2, .ixor, 1), (3, .iload_n 0, 1), (4, .iconst 1, 1), (5, .isub, 1), (6, .iand, 1), (7, .istore_n 0, 1), (8, .iload_n 0, 1), (9, .ifCond .gt 8, 3), (12, .iload_n 0, 1), (13, .bipush 32, 2), (15, .iand, 1), (16, .ireturn, 1), (17, .iconst 1, 1), (18, .istore_n 1, 1)] := dk_use _ _ (by decide +kernel)
theorem dd_J6_numberOfTrailingZeros_0f7a4_1 : dk_R cJ6_numberOfTrailingZeros_0f7a4 [(19, .iload_n 0, 1), (20, .ldc_w 264, 3), (23, .if_icmp .le 11, 3), (26, .iinc 1 16, 3), (29, .iload_n 0, 1), (30, .bipush 16, 2), (32, .iushr, 1), (33, .istore_n 0, 1), (34, .iload_n 0, 1), (35, .sipush 256, 3), (38, .if_icmp .le 11, 3), (41, .iinc 1 8, 3), (44, .iload_n 0, 1), (45, .bipush 8, 2), (47, .iushr, 1), (48, .istore_n 0, 1)] := dk_use _ _ (by decide +kernel)
theorem dd_J6_numberOfTrailingZeros_0f7a4_2 : dk_R cJ6_numberOfTrailingZeros_0f7a4 [(49, .iload_n 0, 1), (50, .bipush 16, 2), (52, .if_icmp .le 10, 3), (55, .iinc 1 4, 3), (58, .iload_n 0, 1), (59, .iconst 4, 1), (60, .iushr, 1), (61, .istore_n 0, 1), (62, .iload_n 0, 1), (63, .iconst 4, 1), (64, .if_icmp .le 10, 3), (67, .iinc 1 2, 3), (70, .iload_n 0, 1), (71, .iconst 2, 1), (72, .iushr, 1), (73, .istore_n 0, 1)] := dk_use _ _ (by decide +kernel)
theorem dd_J6_numberOfTrailingZeros_0f7a4_3 : dk_R cJ6_numberOfTrailingZeros_0f7a4 [(74, .iload_n 1, 1), (75, .iload_n 0, 1), (76, .iconst 1, 1), (77, .iushr, 1), (78, .iadd, 1), (79, .ireturn, 1)] := dk_use _ _ (by decide +kernel)
def fJ6_numberOfTrailingZeros_0f7a4 (i1 : Int32) : Option (Int32) := (if 0 < ((i1 ^^^ (-1)) &&& (i1 - 1)) then ((((if ((i1 ^^^ (-1)) &&& (i1 - 1)) ≤ 65536 then some ((i1 ^^^ (-1)) &&& (i1 - 1), 1) else (ylet ((((i1 ^^^ (-1)) &&& (i1 - 1)).toUInt32 >>> ((16 : Int32).toUInt32 &&& Int32.toUInt32 31)).toInt32 : Int32) fun y_28 => some (y_28, 1 + 16))) : Option (Int32 × Int32))).bind fun r_4 => ((((if r_4.1 ≤ 256 then some (r_4.1, r_4.2) else (ylet ((r_4.1.toUInt32 >>> ((8 : Int32).toUInt32 &&& Int32.toUInt32 31)).toInt32 : Int32) fun y_24 => some (y_24, r_4.2 + 8))) : Option (Int32 × Int32))).bind fun r_7 => ((((if r_7.1 ≤ 16 then some (r_7.1, r_7.2) else (ylet ((r_7.1.toUInt32 >>> ((4 : Int32).toUInt32 &&& Int32.toUInt32 31)).toInt32 : Int32) fun y_20 => some (y_20, r_7.2 + 4))) : Option (Int32 × Int32))).bind fun r_10 => ((((if r_10.1 ≤ 4 then some (r_10.1, r_10.2) else (ylet ((r_10.1.toUInt32 >>> ((2 : Int32).toUInt32 &&& Int32.toUInt32 31)).toInt32 : Int32) fun y_16 => some (y_16, r_10.2 + 2))) : Option (Int32 × Int32))).bind fun r_13 => some (r_13.2 + ((r_13.1.toUInt32 >>> ((1 : Int32).toUInt32 &&& Int32.toUInt32 31)).toInt32)))))) else some (((i1 ^^^ (-1)) &&& (i1 - 1)) &&& 32))
abbrev hJ6_numberOfTrailingZeros_0f7a4 : Cond := .code yJ6_numberOfTrailingZeros_0f7a4 cJ6_numberOfTrailingZeros_0f7a4 2 (some .int)
theorem mJ6_numberOfTrailingZeros_0f7a4 : yM yJ6_numberOfTrailingZeros_0f7a4 hJ6_numberOfTrailingZeros_0f7a4 1 := ⟨u_1460, u_73, by decide +kernel, by decide +kernel, by decide +kernel⟩
set_option maxHeartbeats 4000000 in
set_option maxRecDepth 100000 in
theorem kJ6_numberOfTrailingZeros_0f7a4 (l : Launch) (D : va_G) (cy : Nat → ClassId) (i1 : Int32) {res : Int32} (hR : fJ6_numberOfTrailingZeros_0f7a4 i1 = some res) : YM l D cy yJ6_numberOfTrailingZeros_0f7a4 hJ6_numberOfTrailingZeros_0f7a4 1 0 0 [.int i1] [] (fun v u => v = some (.int res) ∧ u = []) := by
  unfold fJ6_numberOfTrailingZeros_0f7a4 at hR
  refine YM.ofI (cc := cJ6_numberOfTrailingZeros_0f7a4) (maxL := 2) (ret := (some .int)) (by decide +kernel) rfl (Nat.le_of_ble_eq_true rfl) [(0, .int i1)] rfl rfl (fun p e s m args below meth c A H0 Q C hnm ret => ?_)
  refine xr_iload_n (n := 1) (j := 0) C dd_J6_numberOfTrailingZeros_0f7a4_0.1 rfl rfl ?_
  refine xr_iconst (n := 2) (v := -1) C dd_J6_numberOfTrailingZeros_0f7a4_0.2.1 rfl rfl ?_
  refine xr_ixor (n := 3) C dd_J6_numberOfTrailingZeros_0f7a4_0.2.2.1 rfl ?_
  refine xr_iload_n (n := 4) (j := 0) C dd_J6_numberOfTrailingZeros_0f7a4_0.2.2.2.1 rfl rfl ?_
  refine xr_iconst (n := 5) (v := 1) C dd_J6_numberOfTrailingZeros_0f7a4_0.2.2.2.2.1 rfl rfl ?_
  refine xr_isub (n := 6) C dd_J6_numberOfTrailingZeros_0f7a4_0.2.2.2.2.2.1 rfl ?_
  refine xr_iand (n := 7) C dd_J6_numberOfTrailingZeros_0f7a4_0.2.2.2.2.2.2.1 rfl ?_
  refine xr_istore_n (n := 8) C [(0, .int ((i1 ^^^ (-1)) &&& (i1 - 1)))] dd_J6_numberOfTrailingZeros_0f7a4_0.2.2.2.2.2.2.2.1 (by decide) rfl rfl ?_
  refine xr_iload_n (n := 9) (j := 0) C dd_J6_numberOfTrailingZeros_0f7a4_0.2.2.2.2.2.2.2.2.1 rfl rfl ?_
  refine xr_if_gt (tgt := 17) (n := 12) C dd_J6_numberOfTrailingZeros_0f7a4_0.2.2.2.2.2.2.2.2.2.1 rfl rfl (fun c_1 => ?_) (fun c_1 => ?_)
  · replace hR := yf_t c_1 hR
    refine xr_iconst (n := 18) (v := 1) C dd_J6_numberOfTrailingZeros_0f7a4_0.2.2.2.2.2.2.2.2.2.2.2.2.2.2.1 rfl rfl ?_
    refine xr_istore_n (n := 19) C [(1, .int 1), (0, .int ((i1 ^^^ (-1)) &&& (i1 - 1)))] dd_J6_numberOfTrailingZeros_0f7a4_0.2.2.2.2.2.2.2.2.2.2.2.2.2.2.2.1 (by decide) rfl rfl ?_
    refine xr_iload_n (n := 20) (j := 1) C dd_J6_numberOfTrailingZeros_0f7a4_1.1 rfl rfl ?_
    refine xr_ldcw (n := 23) (v := 65536) C u_1461 dd_J6_numberOfTrailingZeros_0f7a4_1.2.1 rfl ?_
    obtain ⟨r_4, hE_4, hR⟩ := yf_b hR
    have J_4 : X p l e (yR 1 0 0) s m args below meth c D A H0 2 Q [] 0 0 [(0, .int r_4.1), (1, .int r_4.2)] 34 [] := by
      refine xr_iload_n (n := 35) (j := 0) C dd_J6_numberOfTrailingZeros_0f7a4_1.2.2.2.2.2.2.2.2.1 rfl rfl ?_
      refine xr_sipush (n := 38) (v := 256) C dd_J6_numberOfTrailingZeros_0f7a4_1.2.2.2.2.2.2.2.2.2.1 rfl rfl ?_
      obtain ⟨r_7, hE_7, hR⟩ := yf_b hR
      have J_7 : X p l e (yR 1 0 0) s m args below meth c D A H0 2 Q [] 0 0 [(0, .int r_7.1), (1, .int r_7.2)] 49 [] := by
        refine xr_iload_n (n := 50) (j := 0) C dd_J6_numberOfTrailingZeros_0f7a4_2.1 rfl rfl ?_
        refine xr_bipush (n := 52) (v := 16) C dd_J6_numberOfTrailingZeros_0f7a4_2.2.1 rfl rfl ?_
        obtain ⟨r_10, hE_10, hR⟩ := yf_b hR
        have J_10 : X p l e (yR 1 0 0) s m args below meth c D A H0 2 Q [] 0 0 [(0, .int r_10.1), (1, .int r_10.2)] 62 [] := by
          refine xr_iload_n (n := 63) (j := 0) C dd_J6_numberOfTrailingZeros_0f7a4_2.2.2.2.2.2.2.2.2.1 rfl rfl ?_
          refine xr_iconst (n := 64) (v := 4) C dd_J6_numberOfTrailingZeros_0f7a4_2.2.2.2.2.2.2.2.2.2.1 rfl rfl ?_
          obtain ⟨r_13, hE_13, hR⟩ := yf_b hR
          have J_13 : X p l e (yR 1 0 0) s m args below meth c D A H0 2 Q [] 0 0 [(0, .int r_13.1), (1, .int r_13.2)] 74 [] := by
            refine xr_iload_n (n := 75) (j := 1) C dd_J6_numberOfTrailingZeros_0f7a4_3.1 rfl rfl ?_
            refine xr_iload_n (n := 76) (j := 0) C dd_J6_numberOfTrailingZeros_0f7a4_3.2.1 rfl rfl ?_
            refine xr_iconst (n := 77) (v := 1) C dd_J6_numberOfTrailingZeros_0f7a4_3.2.2.1 rfl rfl ?_
            refine xr_iushr (n := 78) C dd_J6_numberOfTrailingZeros_0f7a4_3.2.2.2.1 rfl ?_
            refine xr_iadd (n := 79) C dd_J6_numberOfTrailingZeros_0f7a4_3.2.2.2.2.1 rfl ?_
            obtain rfl := Option.some.inj hR
            exact ret (r_13.2 + ((r_13.1.toUInt32 >>> ((1 : Int32).toUInt32 &&& Int32.toUInt32 31)).toInt32)) ⟨rfl, rfl⟩ (Nat.le_of_ble_eq_true rfl) (Nat.le_of_ble_eq_true rfl) dd_J6_numberOfTrailingZeros_0f7a4_3.2.2.2.2.2.1
          refine xr_icmp_le (tgt := 74) (n := 67) C dd_J6_numberOfTrailingZeros_0f7a4_2.2.2.2.2.2.2.2.2.2.2.1 rfl rfl (fun c_14 => ?_) (fun c_14 => ?_)
          · replace hE_13 := yf_t c_14 hE_13
            have e_15 := Option.some.inj hE_13
            subst e_15
            exact J_13
          · replace hE_13 := yf_f c_14 hE_13
            refine xr_iinc (j := 1) (v := r_10.2 + 2) (n := 70) C [(1, .int (r_10.2 + 2)), (0, .int r_10.1)] dd_J6_numberOfTrailingZeros_0f7a4_2.2.2.2.2.2.2.2.2.2.2.2.1 rfl rfl (by decide) rfl rfl ?_
            refine xr_iload_n (n := 71) (j := 1) C dd_J6_numberOfTrailingZeros_0f7a4_2.2.2.2.2.2.2.2.2.2.2.2.2.1 rfl rfl ?_
            refine xr_iconst (n := 72) (v := 2) C dd_J6_numberOfTrailingZeros_0f7a4_2.2.2.2.2.2.2.2.2.2.2.2.2.2.1 rfl rfl ?_
            refine xr_iushr (n := 73) C dd_J6_numberOfTrailingZeros_0f7a4_2.2.2.2.2.2.2.2.2.2.2.2.2.2.2.1 rfl ?_
            obtain ⟨y_16, ey_16, hE_13⟩ := yf_l hE_13
            refine xr_topI ey_16 ?_
            refine xr_istore_n (n := 74) C [(0, .int y_16), (1, .int (r_10.2 + 2))] dd_J6_numberOfTrailingZeros_0f7a4_2.2.2.2.2.2.2.2.2.2.2.2.2.2.2.2.1 (by decide) rfl rfl ?_
            have e_17 := Option.some.inj hE_13
            subst e_17
            exact J_13
        refine xr_icmp_le (tgt := 62) (n := 55) C dd_J6_numberOfTrailingZeros_0f7a4_2.2.2.1 rfl rfl (fun c_18 => ?_) (fun c_18 => ?_)
        · replace hE_10 := yf_t c_18 hE_10
          have e_19 := Option.some.inj hE_10
          subst e_19
          exact J_10
        · replace hE_10 := yf_f c_18 hE_10
          refine xr_iinc (j := 1) (v := r_7.2 + 4) (n := 58) C [(1, .int (r_7.2 + 4)), (0, .int r_7.1)] dd_J6_numberOfTrailingZeros_0f7a4_2.2.2.2.1 rfl rfl (by decide) rfl rfl ?_
          refine xr_iload_n (n := 59) (j := 1) C dd_J6_numberOfTrailingZeros_0f7a4_2.2.2.2.2.1 rfl rfl ?_
          refine xr_iconst (n := 60) (v := 4) C dd_J6_numberOfTrailingZeros_0f7a4_2.2.2.2.2.2.1 rfl rfl ?_
          refine xr_iushr (n := 61) C dd_J6_numberOfTrailingZeros_0f7a4_2.2.2.2.2.2.2.1 rfl ?_
          obtain ⟨y_20, ey_20, hE_10⟩ := yf_l hE_10
          refine xr_topI ey_20 ?_
          refine xr_istore_n (n := 62) C [(0, .int y_20), (1, .int (r_7.2 + 4))] dd_J6_numberOfTrailingZeros_0f7a4_2.2.2.2.2.2.2.2.1 (by decide) rfl rfl ?_
          have e_21 := Option.some.inj hE_10
          subst e_21
          exact J_10
      refine xr_icmp_le (tgt := 49) (n := 41) C dd_J6_numberOfTrailingZeros_0f7a4_1.2.2.2.2.2.2.2.2.2.2.1 rfl rfl (fun c_22 => ?_) (fun c_22 => ?_)
      · replace hE_7 := yf_t c_22 hE_7
        have e_23 := Option.some.inj hE_7
        subst e_23
        exact J_7
      · replace hE_7 := yf_f c_22 hE_7
        refine xr_iinc (j := 1) (v := r_4.2 + 8) (n := 44) C [(1, .int (r_4.2 + 8)), (0, .int r_4.1)] dd_J6_numberOfTrailingZeros_0f7a4_1.2.2.2.2.2.2.2.2.2.2.2.1 rfl rfl (by decide) rfl rfl ?_
        refine xr_iload_n (n := 45) (j := 1) C dd_J6_numberOfTrailingZeros_0f7a4_1.2.2.2.2.2.2.2.2.2.2.2.2.1 rfl rfl ?_
        refine xr_bipush (n := 47) (v := 8) C dd_J6_numberOfTrailingZeros_0f7a4_1.2.2.2.2.2.2.2.2.2.2.2.2.2.1 rfl rfl ?_
        refine xr_iushr (n := 48) C dd_J6_numberOfTrailingZeros_0f7a4_1.2.2.2.2.2.2.2.2.2.2.2.2.2.2.1 rfl ?_
        obtain ⟨y_24, ey_24, hE_7⟩ := yf_l hE_7
        refine xr_topI ey_24 ?_
        refine xr_istore_n (n := 49) C [(0, .int y_24), (1, .int (r_4.2 + 8))] dd_J6_numberOfTrailingZeros_0f7a4_1.2.2.2.2.2.2.2.2.2.2.2.2.2.2.2.1 (by decide) rfl rfl ?_
        have e_25 := Option.some.inj hE_7
        subst e_25
        exact J_7
    refine xr_icmp_le (tgt := 34) (n := 26) C dd_J6_numberOfTrailingZeros_0f7a4_1.2.2.1 rfl rfl (fun c_26 => ?_) (fun c_26 => ?_)
    · replace hE_4 := yf_t c_26 hE_4
      refine xr_lv (lv' := [(0, .int ((i1 ^^^ (-1)) &&& (i1 - 1))), (1, .int 1)]) [1, 0] rfl ?_
      have e_27 := Option.some.inj hE_4
      subst e_27
      exact J_4
    · replace hE_4 := yf_f c_26 hE_4
      refine xr_iinc (j := 0) (v := 1 + 16) (n := 29) C [(1, .int (1 + 16)), (0, .int ((i1 ^^^ (-1)) &&& (i1 - 1)))] dd_J6_numberOfTrailingZeros_0f7a4_1.2.2.2.1 rfl rfl (by decide) rfl rfl ?_
      refine xr_iload_n (n := 30) (j := 1) C dd_J6_numberOfTrailingZeros_0f7a4_1.2.2.2.2.1 rfl rfl ?_
      refine xr_bipush (n := 32) (v := 16) C dd_J6_numberOfTrailingZeros_0f7a4_1.2.2.2.2.2.1 rfl rfl ?_
      refine xr_iushr (n := 33) C dd_J6_numberOfTrailingZeros_0f7a4_1.2.2.2.2.2.2.1 rfl ?_
      obtain ⟨y_28, ey_28, hE_4⟩ := yf_l hE_4
      refine xr_topI ey_28 ?_
      refine xr_istore_n (n := 34) C [(0, .int y_28), (1, .int (1 + 16))] dd_J6_numberOfTrailingZeros_0f7a4_1.2.2.2.2.2.2.2.1 (by decide) rfl rfl ?_
      have e_29 := Option.some.inj hE_4
      subst e_29
      exact J_4
  · replace hR := yf_f c_1 hR
    refine xr_iload_n (n := 13) (j := 0) C dd_J6_numberOfTrailingZeros_0f7a4_0.2.2.2.2.2.2.2.2.2.2.1 rfl rfl ?_
    refine xr_bipush (n := 15) (v := 32) C dd_J6_numberOfTrailingZeros_0f7a4_0.2.2.2.2.2.2.2.2.2.2.2.1 rfl rfl ?_
    refine xr_iand (n := 16) C dd_J6_numberOfTrailingZeros_0f7a4_0.2.2.2.2.2.2.2.2.2.2.2.2.1 rfl ?_
    obtain rfl := Option.some.inj hR
    exact ret (((i1 ^^^ (-1)) &&& (i1 - 1)) &&& 32) ⟨rfl, rfl⟩ (Nat.le_of_ble_eq_true rfl) (Nat.le_of_ble_eq_true rfl) dd_J6_numberOfTrailingZeros_0f7a4_0.2.2.2.2.2.2.2.2.2.2.2.2.2.1
theorem dd_X9_isIn_0 : dk_R cX9_isIn [(0, .iload_n 0, 1), (1, .iload_n 1, 1), (2, .if_icmp .lt 12, 3), (5, .iload_n 0, 1), (6, .iload_n 2, 1), (7, .if_icmp .gt 7, 3), (10, .iconst 1, 1), (11, .goto 4, 3), (14, .iconst 0, 1), (15, .ireturn, 1)] := dk_use _ _ (by decide +kernel)
def fX9_isIn (i1 : Int32) (i2 : Int32) (i3 : Int32) : Option (Int32) := (if i1 < i2 then some 0 else (if i3 < i1 then some 0 else some 1))
abbrev hX9_isIn : Cond := .code yX9_isIn cX9_isIn 3 (some .boolean)
theorem mX9_isIn : yM yX9_isIn hX9_isIn 3 := ⟨u_1300, u_64, by decide +kernel, by decide +kernel, by decide +kernel⟩
set_option maxHeartbeats 4000000 in
set_option maxRecDepth 100000 in
theorem kX9_isIn (l : Launch) (D : va_G) (cy : Nat → ClassId) (i1 : Int32) (i2 : Int32) (i3 : Int32) {res : Int32} (hR : fX9_isIn i1 i2 i3 = some res) : YM l D cy yX9_isIn hX9_isIn 1 0 0 [.int i1, .int i2, .int i3] [] (fun v u => v = some (.int res) ∧ u = []) := by
  unfold fX9_isIn at hR
  refine YM.ofZ (cc := cX9_isIn) (maxL := 3) (ret := (some .boolean)) (by decide +kernel) rfl (Nat.le_of_ble_eq_true rfl) [(0, .int i1), (1, .int i2), (2, .int i3)] rfl .boolean rfl (fun p e s m args below meth c A H0 Q C hnm ret => ?_)
  refine xr_iload_n (n := 1) (j := 0) C dd_X9_isIn_0.1 rfl rfl ?_
  refine xr_iload_n (n := 2) (j := 1) C dd_X9_isIn_0.2.1 rfl rfl ?_
  refine xr_icmp_lt (tgt := 14) (n := 5) C dd_X9_isIn_0.2.2.1 rfl rfl (fun c_1 => ?_) (fun c_1 => ?_)
  · replace hR := yf_t c_1 hR
    refine xr_iconst (n := 15) (v := 0) C dd_X9_isIn_0.2.2.2.2.2.2.2.2.1 rfl rfl ?_
    obtain rfl := Option.some.inj hR
    exact ret 0 (by decide) ⟨rfl, rfl⟩ (Nat.le_of_ble_eq_true rfl) (Nat.le_of_ble_eq_true rfl) dd_X9_isIn_0.2.2.2.2.2.2.2.2.2.1
  · replace hR := yf_f c_1 hR
    refine xr_iload_n (n := 6) (j := 0) C dd_X9_isIn_0.2.2.2.1 rfl rfl ?_
    refine xr_iload_n (n := 7) (j := 2) C dd_X9_isIn_0.2.2.2.2.1 rfl rfl ?_
    refine xr_icmp_gt (tgt := 14) (n := 10) C dd_X9_isIn_0.2.2.2.2.2.1 rfl rfl (fun c_2 => ?_) (fun c_2 => ?_)
    · replace hR := yf_t c_2 hR
      refine xr_iconst (n := 15) (v := 0) C dd_X9_isIn_0.2.2.2.2.2.2.2.2.1 rfl rfl ?_
      obtain rfl := Option.some.inj hR
      exact ret 0 (by decide) ⟨rfl, rfl⟩ (Nat.le_of_ble_eq_true rfl) (Nat.le_of_ble_eq_true rfl) dd_X9_isIn_0.2.2.2.2.2.2.2.2.2.1
    · replace hR := yf_f c_2 hR
      refine xr_iconst (n := 11) (v := 1) C dd_X9_isIn_0.2.2.2.2.2.2.1 rfl rfl ?_
      refine xr_goto (tgt := 15) C dd_X9_isIn_0.2.2.2.2.2.2.2.1 rfl ?_
      obtain rfl := Option.some.inj hR
      exact ret 1 (by decide) ⟨rfl, rfl⟩ (Nat.le_of_ble_eq_true rfl) (Nat.le_of_ble_eq_true rfl) dd_X9_isIn_0.2.2.2.2.2.2.2.2.2.1
theorem dd_X9_one_0 : dk_R cX9_one [(0, .iload_n 0, 1), (1, .ifCond .eq 7, 3), (4, .iconst 1, 1), (5, .goto 4, 3), (8, .iconst 0, 1), (9, .ireturn, 1)] := dk_use _ _ (by decide +kernel)
def fX9_one (i1 : Int32) : Option (Int32) := (if i1 = 0 then some 0 else some 1)
abbrev hX9_one : Cond := .code yX9_one cX9_one 1 (some .int)
theorem mX9_one : yM yX9_one hX9_one 1 := ⟨u_1314, u_64, by decide +kernel, by decide +kernel, by decide +kernel⟩
set_option maxHeartbeats 4000000 in
set_option maxRecDepth 100000 in
theorem kX9_one (l : Launch) (D : va_G) (cy : Nat → ClassId) (i1 : Int32) {res : Int32} (hR : fX9_one i1 = some res) : YM l D cy yX9_one hX9_one 1 0 0 [.int i1] [] (fun v u => v = some (.int res) ∧ u = []) := by
  unfold fX9_one at hR
  refine YM.ofI (cc := cX9_one) (maxL := 1) (ret := (some .int)) (by decide +kernel) rfl (Nat.le_of_ble_eq_true rfl) [(0, .int i1)] rfl rfl (fun p e s m args below meth c A H0 Q C hnm ret => ?_)
  refine xr_iload_n (n := 1) (j := 0) C dd_X9_one_0.1 rfl rfl ?_
  refine xr_if_eq (tgt := 8) (n := 4) C dd_X9_one_0.2.1 rfl rfl (fun c_1 => ?_) (fun c_1 => ?_)
  · replace hR := yf_t c_1 hR
    refine xr_iconst (n := 9) (v := 0) C dd_X9_one_0.2.2.2.2.1 rfl rfl ?_
    obtain rfl := Option.some.inj hR
    exact ret 0 ⟨rfl, rfl⟩ (Nat.le_of_ble_eq_true rfl) (Nat.le_of_ble_eq_true rfl) dd_X9_one_0.2.2.2.2.2.1
  · replace hR := yf_f c_1 hR
    refine xr_iconst (n := 5) (v := 1) C dd_X9_one_0.2.2.1 rfl rfl ?_
    refine xr_goto (tgt := 9) C dd_X9_one_0.2.2.2.1 rfl ?_
    obtain rfl := Option.some.inj hR
    exact ret 1 ⟨rfl, rfl⟩ (Nat.le_of_ble_eq_true rfl) (Nat.le_of_ble_eq_true rfl) dd_X9_one_0.2.2.2.2.2.1
theorem dd_X9_has_0 : dk_R cX9_has [(0, .iload_n 0, 1), (1, .iload_n 1, 1), (2, .ishr, 1), (3, .iconst 1, 1), (4, .iand, 1), (5, .iconst 1, 1), (6, .if_icmp .ne 7, 3), (9, .iconst 1, 1), (10, .goto 4, 3), (13, .iconst 0, 1), (14, .ireturn, 1)] := dk_use _ _ (by decide +kernel)
def fX9_has (i1 : Int32) (i2 : Int32) : Option (Int32) := (if ((i1 >>> (i2 &&& 31)) &&& 1) = 1 then some 1 else some 0)
abbrev hX9_has : Cond := .code yX9_has cX9_has 2 (some .boolean)
theorem mX9_has : yM yX9_has hX9_has 2 := ⟨u_1379, u_64, by decide +kernel, by decide +kernel, by decide +kernel⟩
set_option maxHeartbeats 4000000 in
set_option maxRecDepth 100000 in
theorem kX9_has (l : Launch) (D : va_G) (cy : Nat → ClassId) (i1 : Int32) (i2 : Int32) {res : Int32} (hR : fX9_has i1 i2 = some res) : YM l D cy yX9_has hX9_has 1 0 0 [.int i1, .int i2] [] (fun v u => v = some (.int res) ∧ u = []) := by
  unfold fX9_has at hR
  refine YM.ofZ (cc := cX9_has) (maxL := 2) (ret := (some .boolean)) (by decide +kernel) rfl (Nat.le_of_ble_eq_true rfl) [(0, .int i1), (1, .int i2)] rfl .boolean rfl (fun p e s m args below meth c A H0 Q C hnm ret => ?_)
  refine xr_iload_n (n := 1) (j := 0) C dd_X9_has_0.1 rfl rfl ?_
  refine xr_iload_n (n := 2) (j := 1) C dd_X9_has_0.2.1 rfl rfl ?_
  refine xr_ishr (n := 3) C dd_X9_has_0.2.2.1 rfl ?_
  refine xr_iconst (n := 4) (v := 1) C dd_X9_has_0.2.2.2.1 rfl rfl ?_
  refine xr_iand (n := 5) C dd_X9_has_0.2.2.2.2.1 rfl ?_
  refine xr_iconst (n := 6) (v := 1) C dd_X9_has_0.2.2.2.2.2.1 rfl rfl ?_
  refine xr_icmp_ne (tgt := 13) (n := 9) C dd_X9_has_0.2.2.2.2.2.2.1 rfl rfl (fun c_1 => ?_) (fun c_1 => ?_)
  · replace hR := yf_f c_1 hR
    refine xr_iconst (n := 14) (v := 0) C dd_X9_has_0.2.2.2.2.2.2.2.2.2.1 rfl rfl ?_
    obtain rfl := Option.some.inj hR
    exact ret 0 (by decide) ⟨rfl, rfl⟩ (Nat.le_of_ble_eq_true rfl) (Nat.le_of_ble_eq_true rfl) dd_X9_has_0.2.2.2.2.2.2.2.2.2.2.1
  · replace hR := yf_t c_1 hR
    refine xr_iconst (n := 10) (v := 1) C dd_X9_has_0.2.2.2.2.2.2.2.1 rfl rfl ?_
    refine xr_goto (tgt := 14) C dd_X9_has_0.2.2.2.2.2.2.2.2.1 rfl ?_
    obtain rfl := Option.some.inj hR
    exact ret 1 (by decide) ⟨rfl, rfl⟩ (Nat.le_of_ble_eq_true rfl) (Nat.le_of_ble_eq_true rfl) dd_X9_has_0.2.2.2.2.2.2.2.2.2.2.1
theorem dd_X9_nth_0 : dk_R cX9_nth [(0, .iload_n 0, 1), (1, .istore_n 2, 1), (2, .iconst 0, 1), (3, .istore_n 3, 1), (4, .iload_n 3, 1), (5, .iload_n 1, 1), (6, .if_icmp .ge 15, 3), (9, .iload_n 2, 1), (10, .iload_n 2, 1), (11, .iconst 1, 1), (12, .isub, 1), (13, .iand, 1), (14, .istore_n 2, 1), (15, .iinc 3 1, 3), (18, .goto (-14), 3), (21, .iload_n 2, 1)] := dk_use _ _ (by decide +kernel)
theorem dd_X9_nth_1 : dk_R cX9_nth [(22, .invokestatic 1, 3), (25, .ireturn, 1)] := dk_use _ _ (by decide +kernel)
def fX9_nth (i1 : Int32) (i2 : Int32) : Option (Int32) := ((wl (S := Int32 × Int32) (B := Int32 × Int32) (fun s_1 => (if i2 ≤ s_1.2 then some (.inr (s_1.1, s_1.2)) else some (.inl (s_1.1 &&& (s_1.1 - 1), s_1.2 + 1)))) yFuel (i1, 0)).bind fun b_1 => ((fJ6_numberOfTrailingZeros_0f7a4 b_1.1).bind fun x_2 => some x_2))
abbrev hX9_nth : Cond := .code yX9_nth cX9_nth 4 (some .int)
theorem mX9_nth : yM yX9_nth hX9_nth 2 := ⟨u_1457, u_64, by decide +kernel, by decide +kernel, by decide +kernel⟩
set_option maxHeartbeats 4000000 in
set_option maxRecDepth 100000 in
theorem kX9_nth (l : Launch) (D : va_G) (cy : Nat → ClassId) (i1 : Int32) (i2 : Int32) {res : Int32} (hR : fX9_nth i1 i2 = some res) : YM l D cy yX9_nth hX9_nth 2 0 0 [.int i1, .int i2] [] (fun v u => v = some (.int res) ∧ u = []) := by
  unfold fX9_nth at hR
  refine YM.ofI (cc := cX9_nth) (maxL := 4) (ret := (some .int)) (by decide +kernel) rfl (Nat.le_of_ble_eq_true rfl) [(0, .int i1), (1, .int i2)] rfl rfl (fun p e s m args below meth c A H0 Q C hnm ret => ?_)
  refine xr_iload_n (n := 1) (j := 0) C dd_X9_nth_0.1 rfl rfl ?_
  refine xr_istore_n (n := 2) C [(2, .int i1), (0, .int i1), (1, .int i2)] dd_X9_nth_0.2.1 (by decide) rfl rfl ?_
  refine xr_iconst (n := 3) (v := 0) C dd_X9_nth_0.2.2.1 rfl rfl ?_
  refine xr_istore_n (n := 4) C [(3, .int 0), (2, .int i1), (0, .int i1), (1, .int i2)] dd_X9_nth_0.2.2.2.1 (by decide) rfl rfl ?_
  refine xr_lv (lv' := [(1, .int i2), (2, .int i1), (3, .int 0)]) [3, 1, 0] rfl ?_
  obtain ⟨b_1, hb_1, hR⟩ := yf_b hR
  have K_1 : X p l e (yR 2 0 0) s m args below meth c D A H0 4 Q [] 0 0 [(2, .int b_1.1)] 21 [] := by
    refine xr_iload_n (n := 22) (j := 0) C dd_X9_nth_0.2.2.2.2.2.2.2.2.2.2.2.2.2.2.2.1 rfl rfl ?_
    obtain ⟨x_2, hx_2, hR⟩ := yf_b hR
    refine xr_callSp (n := 25) (As := [.int b_1.1]) (rest := []) C (kJ6_numberOfTrailingZeros_0f7a4 l D cy (i1 := b_1.1) hx_2) mJ6_numberOfTrailingZeros_0f7a4 u_1458 u_1459 0 [] [] rfl (by decide +kernel) rfl rfl rfl rfl (Nat.le_of_ble_eq_true rfl) (Nat.le_of_ble_eq_true rfl) (Nat.le_of_ble_eq_true rfl) (Nat.le_of_ble_eq_true rfl) (Nat.le_of_ble_eq_true rfl) dd_X9_nth_1.1 rfl (fun _ _ hp => hp.2) (fun v_3 hp_5 => ?_)
    obtain ⟨rfl, -⟩ := hp_5
    refine xr_st (st' := [.int x_2]) rfl ?_
    obtain rfl := Option.some.inj hR
    exact ret x_2 ⟨rfl, rfl⟩ (Nat.le_of_ble_eq_true rfl) (Nat.le_of_ble_eq_true rfl) dd_X9_nth_1.2.1
  refine y_loop (P := fun (s_1 : Int32 × Int32) => X p l e (yR 2 0 0) s m args below meth c D A H0 4 Q [] 0 0 [(1, .int i2), (2, .int s_1.1), (3, .int s_1.2)] 4 []) ?_ _ (i1, 0) hb_1
  intro s_1 o_1 ho_1 hk_1 hx_1
  refine xr_iload_n (n := 5) (j := 2) C dd_X9_nth_0.2.2.2.2.1 rfl rfl ?_
  refine xr_iload_n (n := 6) (j := 0) C dd_X9_nth_0.2.2.2.2.2.1 rfl rfl ?_
  refine xr_icmp_ge (tgt := 21) (n := 9) C dd_X9_nth_0.2.2.2.2.2.2.1 rfl rfl (fun c_6 => ?_) (fun c_6 => ?_)
  · replace ho_1 := yf_t c_6 ho_1
    refine xr_lv (lv' := [(2, .int s_1.1)]) [1] rfl ?_
    have e_7 := hx_1 _ (Option.some.inj ho_1).symm
    subst e_7
    exact K_1
  · replace ho_1 := yf_f c_6 ho_1
    refine xr_iload_n (n := 10) (j := 1) C dd_X9_nth_0.2.2.2.2.2.2.2.1 rfl rfl ?_
    refine xr_iload_n (n := 11) (j := 1) C dd_X9_nth_0.2.2.2.2.2.2.2.2.1 rfl rfl ?_
    refine xr_iconst (n := 12) (v := 1) C dd_X9_nth_0.2.2.2.2.2.2.2.2.2.1 rfl rfl ?_
    refine xr_isub (n := 13) C dd_X9_nth_0.2.2.2.2.2.2.2.2.2.2.1 rfl ?_
    refine xr_iand (n := 14) C dd_X9_nth_0.2.2.2.2.2.2.2.2.2.2.2.1 rfl ?_
    refine xr_istore_n (n := 15) C [(2, .int (s_1.1 &&& (s_1.1 - 1))), (1, .int i2), (3, .int s_1.2)] dd_X9_nth_0.2.2.2.2.2.2.2.2.2.2.2.2.1 (by decide) rfl rfl ?_
    refine xr_iinc (j := 2) (v := s_1.2 + 1) (n := 18) C [(3, .int (s_1.2 + 1)), (2, .int (s_1.1 &&& (s_1.1 - 1))), (1, .int i2)] dd_X9_nth_0.2.2.2.2.2.2.2.2.2.2.2.2.2.1 rfl rfl (by decide) rfl rfl ?_
    refine xr_goto (tgt := 4) C dd_X9_nth_0.2.2.2.2.2.2.2.2.2.2.2.2.2.2.1 rfl ?_
    refine xr_lv (lv' := [(1, .int i2), (2, .int (s_1.1 &&& (s_1.1 - 1))), (3, .int (s_1.2 + 1))]) [2, 1, 0] rfl ?_
    exact hk_1 (s_1.1 &&& (s_1.1 - 1), s_1.2 + 1) (Option.some.inj ho_1).symm
theorem dd_X8_rows_0 : dk_R cX8_rows [(0, .aload_n 0, 1), (1, .getfield 7, 3), (4, .aload_n 0, 1), (5, .getfield 13, 3), (8, .invokestatic 17, 3), (11, .iadd, 1), (12, .ireturn, 1)] := dk_use _ _ (by decide +kernel)
def fX8_rows (wr : Int32) (ws : Int32) : Option (Int32) := ((fX9_one ws).bind fun x_1 => some (wr + x_1))
abbrev hX8_rows : Cond := .code yX8_rows cX8_rows 1 (some .int)
theorem mX8_rows : yM yX8_rows hX8_rows 0 := ⟨u_1387, u_65, by decide +kernel, by decide +kernel, by decide +kernel⟩
set_option maxHeartbeats 4000000 in
set_option maxRecDepth 100000 in
theorem kX8_rows (l : Launch) (D : va_G) (cy : Nat → ClassId) (w : Nat) (wr : Int32) (wk : Int32) (wc : Int32) (wg : Int32) (ws : Int32) (wa : Nat) (wb : Nat) {res : Int32} (hR : fX8_rows wr ws = some res) : YM l D cy yX8_rows hX8_rows 2 0 0 [.ref w] [[(w, .inr (10, [.int wr, .int wk, .int wc, .int wg, .int ws, .ref wa, .ref wb]))]] (fun v u => v = some (.int res) ∧ u = [[(w, .inr (10, [.int wr, .int wk, .int wc, .int wg, .int ws, .ref wa, .ref wb]))]]) := by
  unfold fX8_rows at hR
  refine YM.ofI (cc := cX8_rows) (maxL := 1) (ret := (some .int)) (by decide +kernel) rfl (Nat.le_of_ble_eq_true rfl) [(0, .ref w)] rfl rfl (fun p e s m args below meth c A H0 Q C hnm ret => ?_)
  refine xr_aload_n (n := 1) (j := 0) C dd_X8_rows_0.1 rfl rfl ?_
  refine xr_get (n := 4) C 0 rfl rfl 0 (by decide) in_X8 u_1200 rfl (v := .int wr) rfl dd_X8_rows_0.2.1 rfl ?_
  refine xr_aload_n (n := 5) (j := 0) C dd_X8_rows_0.2.2.1 rfl rfl ?_
  refine xr_get (n := 8) C 0 rfl rfl 4 (by decide) in_X8 u_1208 rfl (v := .int ws) rfl dd_X8_rows_0.2.2.2.1 rfl ?_
  obtain ⟨x_1, hx_1, hR⟩ := yf_b hR
  refine xr_callSNp (n := 11) (As := [.int ws]) (rest := [.int wr]) C (kX9_one l D cy (i1 := ws) hx_1) mX9_one (host := RX9) (List.mem_of_getElem? (i := 60) rfl) u_1313 1 [] [0] rfl (by decide +kernel) rfl rfl rfl rfl (Nat.le_of_ble_eq_true rfl) (Nat.le_of_ble_eq_true rfl) (Nat.le_of_ble_eq_true rfl) (Nat.le_of_ble_eq_true rfl) (Nat.le_of_ble_eq_true rfl) dd_X8_rows_0.2.2.2.2.1 rfl (fun _ _ hp => hp.2) (fun v_2 hp_4 => ?_)
  obtain ⟨rfl, -⟩ := hp_4
  refine xr_st (st' := [.int x_1, .int wr]) rfl ?_
  refine xr_iadd (n := 12) C dd_X8_rows_0.2.2.2.2.2.1 rfl ?_
  obtain rfl := Option.some.inj hR
  exact ret (wr + x_1) ⟨rfl, rfl⟩ (Nat.le_of_ble_eq_true rfl) (Nat.le_of_ble_eq_true rfl) dd_X8_rows_0.2.2.2.2.2.2.1
