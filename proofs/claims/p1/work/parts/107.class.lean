theorem u_862 : Cond.code yX3_columnError cX3_columnError 4 (some .int) ∈ yU := yu_tables_1_4 86 (by decide +kernel) (by decide +kernel)
theorem u_854 : Cond.methodLink RX3 41 yX3_rowError ∈ yU := yu_tables_1_4 78 (by decide +kernel) (by decide +kernel)
theorem u_856 : Cond.instanceMethod yX3_rowError ∈ yU := yu_tables_1_4 80 (by decide +kernel) (by decide +kernel)
theorem u_24 : Cond.selects RX3 yX3_rowError yX3_rowError ∈ yU := yu 24 (by decide +kernel) (by decide +kernel)
theorem u_859 : Cond.methodLink RX3 45 yX3_columnError ∈ yU := yu_tables_1_4 83 (by decide +kernel) (by decide +kernel)
theorem u_861 : Cond.instanceMethod yX3_columnError ∈ yU := yu_tables_1_4 85 (by decide +kernel) (by decide +kernel)
theorem u_25 : Cond.selects RX3 yX3_columnError yX3_columnError ∈ yU := yu 25 (by decide +kernel) (by decide +kernel)
theorem u_867 : Cond.methodLink RX3 55 yX4_set ∈ yU := yu_tables_1_4 91 (by decide +kernel) (by decide +kernel)
theorem u_866 : Cond.code yX3_mend cX3_mend 6 (some .int) ∈ yU := yu_tables_1_4 90 (by decide +kernel) (by decide +kernel)
theorem u_863 : Cond.methodLink RX3 48 yX3_mend ∈ yU := yu_tables_1_4 87 (by decide +kernel) (by decide +kernel)
theorem u_865 : Cond.instanceMethod yX3_mend ∈ yU := yu_tables_1_4 89 (by decide +kernel) (by decide +kernel)
theorem u_26 : Cond.selects RX3 yX3_mend yX3_mend ∈ yU := yu 26 (by decide +kernel) (by decide +kernel)
theorem u_853 : Cond.code yX3_judge cX3_judge 6 (some .int) ∈ yU := yu_tables_1_4 77 (by decide +kernel) (by decide +kernel)
theorem u_806 : Cond.code yX5_memberOf cX5_memberOf 4 (some .int) ∈ yU := yu_tables_1_4 30 (by decide +kernel) (by decide +kernel)
theorem u_62 : Cond.initialized RX5 ∈ yU := yu_tables_1_1 6 (by decide +kernel) (by decide +kernel)
theorem u_504 : Cond.methodLink RX5 178 yJ6_bitCount_0f7a4 ∈ yU := yu_tables_1_2 208 (by decide +kernel) (by decide +kernel)
theorem u_503 : Cond.code yX5_placeOf cX5_placeOf 2 (some .int) ∈ yU := yu_tables_1_2 207 (by decide +kernel) (by decide +kernel)
theorem u_256 : Cond.fieldLink RX5 41 "Pulsemesh$Work" "beatsLeft" "I" ∈ yU := yu_tables_1_1 200 (by decide +kernel) (by decide +kernel)
theorem u_432 : Cond.code yX5_runs cX5_runs 1 (some .boolean) ∈ yU := yu_tables_1_2 136 (by decide +kernel) (by decide +kernel)
theorem dd_X3_columnError_0 : dk_R cX3_columnError [(0, .aload_n 0, 1), (1, .getfield 12, 3), (4, .aload_n 0, 1), (5, .getfield 18, 3), (8, .iconst 1, 1), (9, .isub, 1), (10, .iload_n 1, 1), (11, .invokevirtual 52, 3), (14, .ineg, 1), (15, .istore_n 2, 1), (16, .iconst 0, 1), (17, .istore_n 3, 1), (18, .iload_n 3, 1), (19, .aload_n 0, 1), (20, .getfield 18, 3), (23, .iconst 1, 1)] := dk_use _ _ (by decide +kernel)
theorem dd_X3_columnError_1 : dk_R cX3_columnError [(24, .isub, 1), (25, .if_icmp .ge 21, 3), (28, .iload_n 2, 1), (29, .aload_n 0, 1), (30, .getfield 12, 3), (33, .iload_n 3, 1), (34, .iload_n 1, 1), (35, .invokevirtual 52, 3), (38, .iadd, 1), (39, .istore_n 2, 1), (40, .iinc 3 1, 3), (43, .goto (-25), 3), (46, .iload_n 2, 1), (47, .ireturn, 1)] := dk_use _ _ (by decide +kernel)
def fX3_columnError (zr : Int32) (zvf : Nat → Int32) (i1 : Int32) : Option (Int32) := ((fX4_get zvf (zr - 1) i1).bind fun x_1 => ((wl (S := Int32 × Int32) (B := Int32 × Int32) (fun s_5 => (if (zr - 1) ≤ s_5.2 then some (.inr (s_5.1, s_5.2)) else ((fX4_get zvf s_5.2 i1).bind fun x_8 => some (.inl (s_5.1 + x_8, s_5.2 + 1))))) yFuel (-x_1, 0)).bind fun b_5 => some b_5.1))
abbrev hX3_columnError : Cond := .code yX3_columnError cX3_columnError 4 (some .int)
theorem mX3_columnError : yM yX3_columnError hX3_columnError 1 := ⟨u_862, u_61, by decide +kernel, by decide +kernel, by decide +kernel⟩
set_option maxHeartbeats 4000000 in
set_option maxRecDepth 100000 in
theorem kX3_columnError (l : Launch) (D : va_G) (cy : Nat → ClassId) (z : Nat) (zv : Nat) (zr : Int32) (zc : Int32) (zs : Int32) (zvn : Nat) (zvf : Nat → Int32) (i1 : Int32) {res : Int32} (hR : fX3_columnError zr zvf i1 = some res) : YM l D cy yX3_columnError hX3_columnError 2 0 0 [.ref z, .int i1] [[(z, .inr (5, [.ref zv, .int zr, .int zc, .int zs]))], [(zv, .inr (6, [.ref zvn]))], [(zvn, .inl (cy 1, 81, .inl zvf))]] (fun v u => v = some (.int res) ∧ u = [[(z, .inr (5, [.ref zv, .int zr, .int zc, .int zs]))], [(zv, .inr (6, [.ref zvn]))], [(zvn, .inl (cy 1, 81, .inl zvf))]]) := by
  unfold fX3_columnError at hR
  refine YM.ofI (cc := cX3_columnError) (maxL := 4) (ret := (some .int)) (by decide +kernel) rfl (Nat.le_of_ble_eq_true rfl) [(0, .ref z), (1, .int i1)] rfl rfl (fun p e s m args below meth c A H0 Q C hnm ret => ?_)
  refine xr_aload_n (n := 1) (j := 0) C dd_X3_columnError_0.1 rfl rfl ?_
  refine xr_get (n := 4) C 0 rfl rfl 0 (by decide) in_X3 u_173 rfl (v := .ref zv) rfl dd_X3_columnError_0.2.1 rfl ?_
  refine xr_aload_n (n := 5) (j := 0) C dd_X3_columnError_0.2.2.1 rfl rfl ?_
  refine xr_get (n := 8) C 0 rfl rfl 1 (by decide) in_X3 u_176 rfl (v := .int zr) rfl dd_X3_columnError_0.2.2.2.1 rfl ?_
  refine xr_iconst (n := 9) (v := 1) C dd_X3_columnError_0.2.2.2.2.1 rfl rfl ?_
  refine xr_isub (n := 10) C dd_X3_columnError_0.2.2.2.2.2.1 rfl ?_
  refine xr_iload_n (n := 11) (j := 1) C dd_X3_columnError_0.2.2.2.2.2.2.1 rfl rfl ?_
  obtain ⟨x_1, hx_1, hR⟩ := yf_b hR
  refine xr_callVp (n := 14) (As := [.int (zr - 1), .int i1]) (rest := []) C (kX4_get l D cy (h := zv) (hn := zvn) (hf := zvf) (row := zr - 1) (col := i1) hx_1) mX4_get u_858 u_341 u_342 1 rfl rfl 3 [1, 2] [0] rfl (by decide +kernel) rfl rfl rfl rfl (Nat.le_of_ble_eq_true rfl) (Nat.le_of_ble_eq_true rfl) (Nat.le_of_ble_eq_true rfl) (Nat.le_of_ble_eq_true rfl) (Nat.le_of_ble_eq_true rfl) dd_X3_columnError_0.2.2.2.2.2.2.2.1 rfl (fun _ _ hp => hp.2) (fun v_2 hp_4 => ?_)
  obtain ⟨rfl, -⟩ := hp_4
  refine xr_st (st' := [.int x_1]) rfl ?_
  refine xr_ineg (n := 15) C dd_X3_columnError_0.2.2.2.2.2.2.2.2.1 rfl ?_
  refine xr_istore_n (n := 16) C [(2, .int (-x_1)), (0, .ref z), (1, .int i1)] dd_X3_columnError_0.2.2.2.2.2.2.2.2.2.1 (by decide) rfl rfl ?_
  refine xr_iconst (n := 17) (v := 0) C dd_X3_columnError_0.2.2.2.2.2.2.2.2.2.2.1 rfl rfl ?_
  refine xr_istore_n (n := 18) C [(3, .int 0), (2, .int (-x_1)), (0, .ref z), (1, .int i1)] dd_X3_columnError_0.2.2.2.2.2.2.2.2.2.2.2.1 (by decide) rfl rfl ?_
  refine xr_lv (lv' := [(0, .ref z), (1, .int i1), (2, .int (-x_1)), (3, .int 0)]) [2, 3, 1, 0] rfl ?_
  obtain ⟨b_5, hb_5, hR⟩ := yf_b hR
  have K_5 : X p l e (yR 2 0 0) s m args below meth c D A H0 4 Q [[(z, .inr (5, [.ref zv, .int zr, .int zc, .int zs]))], [(zv, .inr (6, [.ref zvn]))], [(zvn, .inl (cy 1, 81, .inl zvf))]] 0 0 [(2, .int b_5.1)] 46 [] := by
    refine xr_iload_n (n := 47) (j := 0) C dd_X3_columnError_1.2.2.2.2.2.2.2.2.2.2.2.2.1 rfl rfl ?_
    obtain rfl := Option.some.inj hR
    exact ret b_5.1 ⟨rfl, rfl⟩ (Nat.le_of_ble_eq_true rfl) (Nat.le_of_ble_eq_true rfl) dd_X3_columnError_1.2.2.2.2.2.2.2.2.2.2.2.2.2.1
  refine y_loop (P := fun (s_5 : Int32 × Int32) => X p l e (yR 2 0 0) s m args below meth c D A H0 4 Q [[(z, .inr (5, [.ref zv, .int zr, .int zc, .int zs]))], [(zv, .inr (6, [.ref zvn]))], [(zvn, .inl (cy 1, 81, .inl zvf))]] 0 0 [(0, .ref z), (1, .int i1), (2, .int s_5.1), (3, .int s_5.2)] 18 []) ?_ _ (-x_1, 0) hb_5
  intro s_5 o_5 ho_5 hk_5 hx_5
  refine xr_iload_n (n := 19) (j := 3) C dd_X3_columnError_0.2.2.2.2.2.2.2.2.2.2.2.2.1 rfl rfl ?_
  refine xr_aload_n (n := 20) (j := 0) C dd_X3_columnError_0.2.2.2.2.2.2.2.2.2.2.2.2.2.1 rfl rfl ?_
  refine xr_get (n := 23) C 0 rfl rfl 1 (by decide) in_X3 u_176 rfl (v := .int zr) rfl dd_X3_columnError_0.2.2.2.2.2.2.2.2.2.2.2.2.2.2.1 rfl ?_
  refine xr_iconst (n := 24) (v := 1) C dd_X3_columnError_0.2.2.2.2.2.2.2.2.2.2.2.2.2.2.2.1 rfl rfl ?_
  refine xr_isub (n := 25) C dd_X3_columnError_1.1 rfl ?_
  refine xr_icmp_ge (tgt := 46) (n := 28) C dd_X3_columnError_1.2.1 rfl rfl (fun c_6 => ?_) (fun c_6 => ?_)
  · replace ho_5 := yf_t c_6 ho_5
    refine xr_lv (lv' := [(2, .int s_5.1)]) [2] rfl ?_
    have e_7 := hx_5 _ (Option.some.inj ho_5).symm
    subst e_7
    exact K_5
  · replace ho_5 := yf_f c_6 ho_5
    refine xr_iload_n (n := 29) (j := 2) C dd_X3_columnError_1.2.2.1 rfl rfl ?_
    refine xr_aload_n (n := 30) (j := 0) C dd_X3_columnError_1.2.2.2.1 rfl rfl ?_
    refine xr_get (n := 33) C 0 rfl rfl 0 (by decide) in_X3 u_173 rfl (v := .ref zv) rfl dd_X3_columnError_1.2.2.2.2.1 rfl ?_
    refine xr_iload_n (n := 34) (j := 3) C dd_X3_columnError_1.2.2.2.2.2.1 rfl rfl ?_
    refine xr_iload_n (n := 35) (j := 1) C dd_X3_columnError_1.2.2.2.2.2.2.1 rfl rfl ?_
    obtain ⟨x_8, hx_8, ho_5⟩ := yf_b ho_5
    refine xr_callVp (n := 38) (As := [.int s_5.2, .int i1]) (rest := [.int s_5.1]) C (kX4_get l D cy (h := zv) (hn := zvn) (hf := zvf) (row := s_5.2) (col := i1) hx_8) mX4_get u_858 u_341 u_342 1 rfl rfl 3 [1, 2] [0] rfl (by decide +kernel) rfl rfl rfl rfl (Nat.le_of_ble_eq_true rfl) (Nat.le_of_ble_eq_true rfl) (Nat.le_of_ble_eq_true rfl) (Nat.le_of_ble_eq_true rfl) (Nat.le_of_ble_eq_true rfl) dd_X3_columnError_1.2.2.2.2.2.2.2.1 rfl (fun _ _ hp => hp.2) (fun v_9 hp_11 => ?_)
    obtain ⟨rfl, -⟩ := hp_11
    refine xr_st (st' := [.int x_8, .int s_5.1]) rfl ?_
    refine xr_iadd (n := 39) C dd_X3_columnError_1.2.2.2.2.2.2.2.2.1 rfl ?_
    refine xr_istore_n (n := 40) C [(2, .int (s_5.1 + x_8)), (0, .ref z), (1, .int i1), (3, .int s_5.2)] dd_X3_columnError_1.2.2.2.2.2.2.2.2.2.1 (by decide) rfl rfl ?_
    refine xr_iinc (j := 3) (v := s_5.2 + 1) (n := 43) C [(3, .int (s_5.2 + 1)), (2, .int (s_5.1 + x_8)), (0, .ref z), (1, .int i1)] dd_X3_columnError_1.2.2.2.2.2.2.2.2.2.2.1 rfl rfl (by decide) rfl rfl ?_
    refine xr_goto (tgt := 18) C dd_X3_columnError_1.2.2.2.2.2.2.2.2.2.2.2.1 rfl ?_
    refine xr_lv (lv' := [(0, .ref z), (1, .int i1), (2, .int (s_5.1 + x_8)), (3, .int (s_5.2 + 1))]) [2, 3, 1, 0] rfl ?_
    exact hk_5 (s_5.1 + x_8, s_5.2 + 1) (Option.some.inj ho_5).symm
theorem dd_X3_mend_0 : dk_R cX3_mend [(0, .aload_n 0, 1), (1, .getfield 12, 3), (4, .iload_n 1, 1), (5, .iload_n 2, 1), (6, .invokevirtual 52, 3), (9, .istore_n 3, 1), (10, .iload_n 2, 1), (11, .aload_n 0, 1), (12, .getfield 22, 3), (15, .iconst 1, 1), (16, .isub, 1), (17, .if_icmp .ne 13, 3), (20, .iload_n 3, 1), (21, .aload_n 0, 1), (22, .iload_n 1, 1), (23, .invokevirtual 41, 3)] := dk_use _ _ (by decide +kernel)
theorem dd_X3_mend_1 : dk_R cX3_mend [(26, .iadd, 1), (27, .goto 10, 3), (30, .iload_n 3, 1), (31, .aload_n 0, 1), (32, .iload_n 1, 1), (33, .invokevirtual 41, 3), (36, .isub, 1), (37, .istore 4, 2), (39, .iload_n 1, 1), (40, .aload_n 0, 1), (41, .getfield 18, 3), (44, .iconst 1, 1), (45, .isub, 1), (46, .if_icmp .ne 13, 3), (49, .iload_n 3, 1), (50, .aload_n 0, 1)] := dk_use _ _ (by decide +kernel)
theorem dd_X3_mend_2 : dk_R cX3_mend [(51, .iload_n 2, 1), (52, .invokevirtual 45, 3), (55, .iadd, 1), (56, .goto 10, 3), (59, .iload_n 3, 1), (60, .aload_n 0, 1), (61, .iload_n 2, 1), (62, .invokevirtual 45, 3), (65, .isub, 1), (66, .istore 5, 2), (68, .iload 4, 2), (70, .iload 5, 2), (72, .if_icmp .eq 5, 3), (75, .iconst 2, 1), (76, .ireturn, 1), (77, .aload_n 0, 1)] := dk_use _ _ (by decide +kernel)
theorem dd_X3_mend_3 : dk_R cX3_mend [(78, .getfield 12, 3), (81, .iload_n 1, 1), (82, .iload_n 2, 1), (83, .iload 4, 2), (85, .invokevirtual 55, 3), (88, .iconst 1, 1), (89, .ireturn, 1)] := dk_use _ _ (by decide +kernel)
def fX3_mend (zr : Int32) (zc : Int32) (zvf : Nat → Int32) (i1 : Int32) (i2 : Int32) : Option (Int32 × (Nat → Int32)) := ((fX4_get zvf i1 i2).bind fun x_1 => ((((if i2 = (zc - 1) then ((fX3_rowError zc zvf i1).bind fun x_47 => some (x_1 + x_47)) else ((fX3_rowError zc zvf i1).bind fun x_42 => some (x_1 - x_42))) : Option (Int32))).bind fun r_14 => ((((if i1 = (zr - 1) then ((fX3_columnError zr zvf i2).bind fun x_36 => some (x_1 + x_36)) else ((fX3_columnError zr zvf i2).bind fun x_31 => some (x_1 - x_31))) : Option (Int32))).bind fun r_24 => (if r_14 = r_24 then ((fX4_set zvf i1 i2 r_14).bind fun x_26 => some (1, x_26)) else some (2, zvf)))))
abbrev hX3_mend : Cond := .code yX3_mend cX3_mend 6 (some .int)
theorem mX3_mend : yM yX3_mend hX3_mend 2 := ⟨u_866, u_61, by decide +kernel, by decide +kernel, by decide +kernel⟩
set_option maxHeartbeats 4000000 in
set_option maxRecDepth 100000 in
theorem kX3_mend (l : Launch) (D : va_G) (cy : Nat → ClassId) (z : Nat) (zv : Nat) (zr : Int32) (zc : Int32) (zs : Int32) (zvn : Nat) (zvf : Nat → Int32) (i1 : Int32) (i2 : Int32) {res : Int32 × (Nat → Int32)} (hR : fX3_mend zr zc zvf i1 i2 = some res) : YM l D cy yX3_mend hX3_mend 3 0 0 [.ref z, .int i1, .int i2] [[(z, .inr (5, [.ref zv, .int zr, .int zc, .int zs]))], [(zv, .inr (6, [.ref zvn]))], [(zvn, .inl (cy 1, 81, .inl zvf))]] (fun v u => v = some (.int res.1) ∧ u = [[(z, .inr (5, [.ref zv, .int zr, .int zc, .int zs]))], [(zv, .inr (6, [.ref zvn]))], [(zvn, .inl (cy 1, 81, .inl res.2))]]) := by
  unfold fX3_mend at hR
  refine YM.ofI (cc := cX3_mend) (maxL := 6) (ret := (some .int)) (by decide +kernel) rfl (Nat.le_of_ble_eq_true rfl) [(0, .ref z), (1, .int i1), (2, .int i2)] rfl rfl (fun p e s m args below meth c A H0 Q C hnm ret => ?_)
  refine xr_aload_n (n := 1) (j := 0) C dd_X3_mend_0.1 rfl rfl ?_
  refine xr_get (n := 4) C 0 rfl rfl 0 (by decide) in_X3 u_173 rfl (v := .ref zv) rfl dd_X3_mend_0.2.1 rfl ?_
  refine xr_iload_n (n := 5) (j := 1) C dd_X3_mend_0.2.2.1 rfl rfl ?_
  refine xr_iload_n (n := 6) (j := 2) C dd_X3_mend_0.2.2.2.1 rfl rfl ?_
  obtain ⟨x_1, hx_1, hR⟩ := yf_b hR
  refine xr_callVp (n := 9) (As := [.int i1, .int i2]) (rest := []) C (kX4_get l D cy (h := zv) (hn := zvn) (hf := zvf) (row := i1) (col := i2) hx_1) mX4_get u_858 u_341 u_342 1 rfl rfl 3 [1, 2] [0] rfl (by decide +kernel) rfl rfl rfl rfl (Nat.le_of_ble_eq_true rfl) (Nat.le_of_ble_eq_true rfl) (Nat.le_of_ble_eq_true rfl) (Nat.le_of_ble_eq_true rfl) (Nat.le_of_ble_eq_true rfl) dd_X3_mend_0.2.2.2.2.1 rfl (fun _ _ hp => hp.2) (fun v_2 hp_4 => ?_)
  obtain ⟨rfl, -⟩ := hp_4
  refine xr_st (st' := [.int x_1]) rfl ?_
  refine xr_istore_n (n := 10) C [(3, .int x_1), (0, .ref z), (1, .int i1), (2, .int i2)] dd_X3_mend_0.2.2.2.2.2.1 (by decide) rfl rfl ?_
  refine xr_iload_n (n := 11) (j := 3) C dd_X3_mend_0.2.2.2.2.2.2.1 rfl rfl ?_
  refine xr_aload_n (n := 12) (j := 1) C dd_X3_mend_0.2.2.2.2.2.2.2.1 rfl rfl ?_
  refine xr_get (n := 15) C 0 rfl rfl 2 (by decide) in_X3 u_178 rfl (v := .int zc) rfl dd_X3_mend_0.2.2.2.2.2.2.2.2.1 rfl ?_
  refine xr_iconst (n := 16) (v := 1) C dd_X3_mend_0.2.2.2.2.2.2.2.2.2.1 rfl rfl ?_
  refine xr_isub (n := 17) C dd_X3_mend_0.2.2.2.2.2.2.2.2.2.2.1 rfl ?_
  obtain ⟨r_14, hE_14, hR⟩ := yf_b hR
  have J_14 : X p l e (yR 3 0 0) s m args below meth c D A H0 6 Q [[(z, .inr (5, [.ref zv, .int zr, .int zc, .int zs]))], [(zv, .inr (6, [.ref zvn]))], [(zvn, .inl (cy 1, 81, .inl zvf))]] 0 0 [(0, .ref z), (1, .int i1), (2, .int i2), (3, .int x_1)] 37 [.int r_14] := by
    refine xr_istore (n := 39) C [(4, .int r_14), (0, .ref z), (1, .int i1), (2, .int i2), (3, .int x_1)] dd_X3_mend_1.2.2.2.2.2.2.2.1 (by decide) rfl rfl ?_
    refine xr_iload_n (n := 40) (j := 2) C dd_X3_mend_1.2.2.2.2.2.2.2.2.1 rfl rfl ?_
    refine xr_aload_n (n := 41) (j := 1) C dd_X3_mend_1.2.2.2.2.2.2.2.2.2.1 rfl rfl ?_
    refine xr_get (n := 44) C 0 rfl rfl 1 (by decide) in_X3 u_176 rfl (v := .int zr) rfl dd_X3_mend_1.2.2.2.2.2.2.2.2.2.2.1 rfl ?_
    refine xr_iconst (n := 45) (v := 1) C dd_X3_mend_1.2.2.2.2.2.2.2.2.2.2.2.1 rfl rfl ?_
    refine xr_isub (n := 46) C dd_X3_mend_1.2.2.2.2.2.2.2.2.2.2.2.2.1 rfl ?_
    obtain ⟨r_24, hE_24, hR⟩ := yf_b hR
    have J_24 : X p l e (yR 3 0 0) s m args below meth c D A H0 6 Q [[(z, .inr (5, [.ref zv, .int zr, .int zc, .int zs]))], [(zv, .inr (6, [.ref zvn]))], [(zvn, .inl (cy 1, 81, .inl zvf))]] 0 0 [(0, .ref z), (1, .int i1), (2, .int i2), (4, .int r_14)] 66 [.int r_24] := by
      refine xr_istore (n := 68) C [(5, .int r_24), (0, .ref z), (1, .int i1), (2, .int i2), (4, .int r_14)] dd_X3_mend_2.2.2.2.2.2.2.2.2.2.1 (by decide) rfl rfl ?_
      refine xr_iload (n := 70) (j := 4) C dd_X3_mend_2.2.2.2.2.2.2.2.2.2.2.1 rfl rfl ?_
      refine xr_iload (n := 72) (j := 0) C dd_X3_mend_2.2.2.2.2.2.2.2.2.2.2.2.1 rfl rfl ?_
      refine xr_icmp_eq (tgt := 77) (n := 75) C dd_X3_mend_2.2.2.2.2.2.2.2.2.2.2.2.2.1 rfl rfl (fun c_25 => ?_) (fun c_25 => ?_)
      · replace hR := yf_t c_25 hR
        refine xr_aload_n (n := 78) (j := 1) C dd_X3_mend_2.2.2.2.2.2.2.2.2.2.2.2.2.2.2.2.1 rfl rfl ?_
        refine xr_get (n := 81) C 0 rfl rfl 0 (by decide) in_X3 u_173 rfl (v := .ref zv) rfl dd_X3_mend_3.1 rfl ?_
        refine xr_iload_n (n := 82) (j := 2) C dd_X3_mend_3.2.1 rfl rfl ?_
        refine xr_iload_n (n := 83) (j := 3) C dd_X3_mend_3.2.2.1 rfl rfl ?_
        refine xr_iload (n := 85) (j := 4) C dd_X3_mend_3.2.2.2.1 rfl rfl ?_
        obtain ⟨x_26, hx_26, hR⟩ := yf_b hR
        refine xr_callV (n := 88) (As := [.int i1, .int i2, .int r_14]) (rest := []) C (kX4_set l D cy (h := zv) (hn := zvn) (hf := zvf) (row := i1) (col := i2) (num := r_14) hx_26) mX4_set u_867 u_680 u_681 1 rfl rfl 3 [1, 2] [0] rfl (by decide +kernel) rfl rfl rfl rfl (Nat.le_of_ble_eq_true rfl) (Nat.le_of_ble_eq_true rfl) (Nat.le_of_ble_eq_true rfl) (Nat.le_of_ble_eq_true rfl) (Nat.le_of_ble_eq_true rfl) dd_X3_mend_3.2.2.2.2.1 rfl (fun v_27 u_28 hp_29 => ?_)
        obtain ⟨rfl, rfl⟩ := hp_29
        refine xr_perm C 3 [2, 0, 1] [] [[(z, .inr (5, [.ref zv, .int zr, .int zc, .int zs]))], [(zv, .inr (6, [.ref zvn]))], [(zvn, .inl (cy 1, 81, .inl x_26))]] rfl (by decide +kernel) rfl ?_
        refine xr_iconst (n := 89) (v := 1) C dd_X3_mend_3.2.2.2.2.2.1 rfl rfl ?_
        obtain rfl := Option.some.inj hR
        exact ret 1 ⟨rfl, rfl⟩ (Nat.le_of_ble_eq_true rfl) (Nat.le_of_ble_eq_true rfl) dd_X3_mend_3.2.2.2.2.2.2.1
      · replace hR := yf_f c_25 hR
        refine xr_iconst (n := 76) (v := 2) C dd_X3_mend_2.2.2.2.2.2.2.2.2.2.2.2.2.2.1 rfl rfl ?_
        obtain rfl := Option.some.inj hR
        exact ret 2 ⟨rfl, rfl⟩ (Nat.le_of_ble_eq_true rfl) (Nat.le_of_ble_eq_true rfl) dd_X3_mend_2.2.2.2.2.2.2.2.2.2.2.2.2.2.2.1
    refine xr_icmp_ne (tgt := 59) (n := 49) C dd_X3_mend_1.2.2.2.2.2.2.2.2.2.2.2.2.2.1 rfl rfl (fun c_30 => ?_) (fun c_30 => ?_)
    · replace hE_24 := yf_f c_30 hE_24
      refine xr_iload_n (n := 60) (j := 4) C dd_X3_mend_2.2.2.2.2.1 rfl rfl ?_
      refine xr_aload_n (n := 61) (j := 1) C dd_X3_mend_2.2.2.2.2.2.1 rfl rfl ?_
      refine xr_iload_n (n := 62) (j := 3) C dd_X3_mend_2.2.2.2.2.2.2.1 rfl rfl ?_
      obtain ⟨x_31, hx_31, hE_24⟩ := yf_b hE_24
      refine xr_callVp (n := 65) (As := [.int i2]) (rest := [.int x_1]) C (kX3_columnError l D cy (z := z) (zv := zv) (zr := zr) (zc := zc) (zs := zs) (zvn := zvn) (zvf := zvf) (i1 := i2) hx_31) mX3_columnError u_859 u_861 u_25 0 rfl rfl 3 [0, 1, 2] [] rfl (by decide +kernel) rfl rfl rfl rfl (Nat.le_of_ble_eq_true rfl) (Nat.le_of_ble_eq_true rfl) (Nat.le_of_ble_eq_true rfl) (Nat.le_of_ble_eq_true rfl) (Nat.le_of_ble_eq_true rfl) dd_X3_mend_2.2.2.2.2.2.2.2.1 rfl (fun _ _ hp => hp.2) (fun v_32 hp_34 => ?_)
      obtain ⟨rfl, -⟩ := hp_34
      refine xr_st (st' := [.int x_31, .int x_1]) rfl ?_
      refine xr_isub (n := 66) C dd_X3_mend_2.2.2.2.2.2.2.2.2.1 rfl ?_
      refine xr_lv (lv' := [(0, .ref z), (1, .int i1), (2, .int i2), (4, .int r_14)]) [1, 2, 3, 0] rfl ?_
      have e_35 := Option.some.inj hE_24
      subst e_35
      exact J_24
    · replace hE_24 := yf_t c_30 hE_24
      refine xr_iload_n (n := 50) (j := 4) C dd_X3_mend_1.2.2.2.2.2.2.2.2.2.2.2.2.2.2.1 rfl rfl ?_
      refine xr_aload_n (n := 51) (j := 1) C dd_X3_mend_1.2.2.2.2.2.2.2.2.2.2.2.2.2.2.2.1 rfl rfl ?_
      refine xr_iload_n (n := 52) (j := 3) C dd_X3_mend_2.1 rfl rfl ?_
      obtain ⟨x_36, hx_36, hE_24⟩ := yf_b hE_24
      refine xr_callVp (n := 55) (As := [.int i2]) (rest := [.int x_1]) C (kX3_columnError l D cy (z := z) (zv := zv) (zr := zr) (zc := zc) (zs := zs) (zvn := zvn) (zvf := zvf) (i1 := i2) hx_36) mX3_columnError u_859 u_861 u_25 0 rfl rfl 3 [0, 1, 2] [] rfl (by decide +kernel) rfl rfl rfl rfl (Nat.le_of_ble_eq_true rfl) (Nat.le_of_ble_eq_true rfl) (Nat.le_of_ble_eq_true rfl) (Nat.le_of_ble_eq_true rfl) (Nat.le_of_ble_eq_true rfl) dd_X3_mend_2.2.1 rfl (fun _ _ hp => hp.2) (fun v_37 hp_39 => ?_)
      obtain ⟨rfl, -⟩ := hp_39
      refine xr_st (st' := [.int x_36, .int x_1]) rfl ?_
      refine xr_iadd (n := 56) C dd_X3_mend_2.2.2.1 rfl ?_
      refine xr_goto (tgt := 66) C dd_X3_mend_2.2.2.2.1 rfl ?_
      refine xr_lv (lv' := [(0, .ref z), (1, .int i1), (2, .int i2), (4, .int r_14)]) [1, 2, 3, 0] rfl ?_
      have e_40 := Option.some.inj hE_24
      subst e_40
      exact J_24
  refine xr_icmp_ne (tgt := 30) (n := 20) C dd_X3_mend_0.2.2.2.2.2.2.2.2.2.2.2.1 rfl rfl (fun c_41 => ?_) (fun c_41 => ?_)
  · replace hE_14 := yf_f c_41 hE_14
    refine xr_iload_n (n := 31) (j := 0) C dd_X3_mend_1.2.2.1 rfl rfl ?_
    refine xr_aload_n (n := 32) (j := 1) C dd_X3_mend_1.2.2.2.1 rfl rfl ?_
    refine xr_iload_n (n := 33) (j := 2) C dd_X3_mend_1.2.2.2.2.1 rfl rfl ?_
    obtain ⟨x_42, hx_42, hE_14⟩ := yf_b hE_14
    refine xr_callVp (n := 36) (As := [.int i1]) (rest := [.int x_1]) C (kX3_rowError l D cy (z := z) (zv := zv) (zr := zr) (zc := zc) (zs := zs) (zvn := zvn) (zvf := zvf) (i1 := i1) hx_42) mX3_rowError u_854 u_856 u_24 0 rfl rfl 3 [0, 1, 2] [] rfl (by decide +kernel) rfl rfl rfl rfl (Nat.le_of_ble_eq_true rfl) (Nat.le_of_ble_eq_true rfl) (Nat.le_of_ble_eq_true rfl) (Nat.le_of_ble_eq_true rfl) (Nat.le_of_ble_eq_true rfl) dd_X3_mend_1.2.2.2.2.2.1 rfl (fun _ _ hp => hp.2) (fun v_43 hp_45 => ?_)
    obtain ⟨rfl, -⟩ := hp_45
    refine xr_st (st' := [.int x_42, .int x_1]) rfl ?_
    refine xr_isub (n := 37) C dd_X3_mend_1.2.2.2.2.2.2.1 rfl ?_
    refine xr_lv (lv' := [(0, .ref z), (1, .int i1), (2, .int i2), (3, .int x_1)]) [1, 2, 3, 0] rfl ?_
    have e_46 := Option.some.inj hE_14
    subst e_46
    exact J_14
  · replace hE_14 := yf_t c_41 hE_14
    refine xr_iload_n (n := 21) (j := 0) C dd_X3_mend_0.2.2.2.2.2.2.2.2.2.2.2.2.1 rfl rfl ?_
    refine xr_aload_n (n := 22) (j := 1) C dd_X3_mend_0.2.2.2.2.2.2.2.2.2.2.2.2.2.1 rfl rfl ?_
    refine xr_iload_n (n := 23) (j := 2) C dd_X3_mend_0.2.2.2.2.2.2.2.2.2.2.2.2.2.2.1 rfl rfl ?_
    obtain ⟨x_47, hx_47, hE_14⟩ := yf_b hE_14
    refine xr_callVp (n := 26) (As := [.int i1]) (rest := [.int x_1]) C (kX3_rowError l D cy (z := z) (zv := zv) (zr := zr) (zc := zc) (zs := zs) (zvn := zvn) (zvf := zvf) (i1 := i1) hx_47) mX3_rowError u_854 u_856 u_24 0 rfl rfl 3 [0, 1, 2] [] rfl (by decide +kernel) rfl rfl rfl rfl (Nat.le_of_ble_eq_true rfl) (Nat.le_of_ble_eq_true rfl) (Nat.le_of_ble_eq_true rfl) (Nat.le_of_ble_eq_true rfl) (Nat.le_of_ble_eq_true rfl) dd_X3_mend_0.2.2.2.2.2.2.2.2.2.2.2.2.2.2.2.1 rfl (fun _ _ hp => hp.2) (fun v_48 hp_50 => ?_)
    obtain ⟨rfl, -⟩ := hp_50
    refine xr_st (st' := [.int x_47, .int x_1]) rfl ?_
    refine xr_iadd (n := 27) C dd_X3_mend_1.1 rfl ?_
    refine xr_goto (tgt := 37) C dd_X3_mend_1.2.1 rfl ?_
    refine xr_lv (lv' := [(0, .ref z), (1, .int i1), (2, .int i2), (3, .int x_1)]) [1, 2, 3, 0] rfl ?_
    have e_51 := Option.some.inj hE_14
    subst e_51
    exact J_14
theorem dd_X3_judge_0 : dk_R cX3_judge [(0, .iconst 0, 1), (1, .istore_n 1, 1), (2, .iconst (-1), 1), (3, .istore_n 2, 1), (4, .iconst 0, 1), (5, .istore_n 3, 1), (6, .iload_n 3, 1), (7, .aload_n 0, 1), (8, .getfield 18, 3), (11, .if_icmp .ge 22, 3), (14, .aload_n 0, 1), (15, .iload_n 3, 1), (16, .invokevirtual 41, 3), (19, .ifCond .eq 8, 3), (22, .iinc 1 1, 3), (25, .iload_n 3, 1)] := dk_use _ _ (by decide +kernel)
theorem dd_X3_judge_1 : dk_R cX3_judge [(26, .istore_n 2, 1), (27, .iinc 3 1, 3), (30, .goto (-24), 3), (33, .iconst 0, 1), (34, .istore_n 3, 1), (35, .iconst (-1), 1), (36, .istore 4, 2), (38, .iconst 0, 1), (39, .istore 5, 2), (41, .iload 5, 2), (43, .aload_n 0, 1), (44, .getfield 22, 3), (47, .if_icmp .ge 25, 3), (50, .aload_n 0, 1), (51, .iload 5, 2), (53, .invokevirtual 45, 3)] := dk_use _ _ (by decide +kernel)
theorem dd_X3_judge_2 : dk_R cX3_judge [(56, .ifCond .eq 10, 3), (59, .iinc 3 1, 3), (62, .iload 5, 2), (64, .istore 4, 2), (66, .iinc 5 1, 3), (69, .goto (-28), 3), (72, .iload_n 1, 1), (73, .ifCond .ne 9, 3), (76, .iload_n 3, 1), (77, .ifCond .ne 5, 3), (80, .iconst 0, 1), (81, .ireturn, 1), (82, .iload_n 1, 1), (83, .iconst 1, 1), (84, .if_icmp .ne 8, 3), (87, .iload_n 3, 1)] := dk_use _ _ (by decide +kernel)
theorem dd_X3_judge_3 : dk_R cX3_judge [(88, .iconst 1, 1), (89, .if_icmp .eq 5, 3), (92, .iconst 2, 1), (93, .ireturn, 1), (94, .aload_n 0, 1), (95, .iload_n 2, 1), (96, .iload 4, 2), (98, .invokevirtual 48, 3), (101, .ireturn, 1)] := dk_use _ _ (by decide +kernel)
def fX3_judge (zr : Int32) (zc : Int32) (zvf : Nat → Int32) : Option (Int32 × (Nat → Int32)) := ((wl (S := Int32 × Int32 × Int32) (B := Int32 × Int32 × Int32) (fun s_1 => (if zr ≤ s_1.2.2 then some (.inr (s_1.1, s_1.2.1, s_1.2.2)) else ((fX3_rowError zc zvf s_1.2.2).bind fun x_26 => (if x_26 = 0 then some (.inl (s_1.1, s_1.2.1, s_1.2.2 + 1)) else some (.inl (s_1.1 + 1, s_1.2.2, s_1.2.2 + 1)))))) yFuel (0, -1, 0)).bind fun b_1 => ((wl (S := Int32 × Int32 × Int32) (B := Int32 × Int32 × Int32) (fun s_2 => (if zc ≤ s_2.2.2 then some (.inr (s_2.1, s_2.2.1, s_2.2.2)) else ((fX3_columnError zr zvf s_2.2.2).bind fun x_19 => (if x_19 = 0 then some (.inl (s_2.1, s_2.2.1, s_2.2.2 + 1)) else some (.inl (s_2.1 + 1, s_2.2.2, s_2.2.2 + 1)))))) yFuel (0, -1, 0)).bind fun b_2 => (if b_1.1 = 0 then (if b_2.1 = 0 then some (0, zvf) else (if b_1.1 = 1 then (if b_2.1 = 1 then ((fX3_mend zr zc zvf b_1.2.1 b_2.2.1).bind fun x_13 => some (x_13.1, x_13.2)) else some (2, zvf)) else some (2, zvf))) else (if b_1.1 = 1 then (if b_2.1 = 1 then ((fX3_mend zr zc zvf b_1.2.1 b_2.2.1).bind fun x_6 => some (x_6.1, x_6.2)) else some (2, zvf)) else some (2, zvf)))))
abbrev hX3_judge : Cond := .code yX3_judge cX3_judge 6 (some .int)
theorem mX3_judge : yM yX3_judge hX3_judge 0 := ⟨u_853, u_61, by decide +kernel, by decide +kernel, by decide +kernel⟩
set_option maxHeartbeats 4000000 in
set_option maxRecDepth 100000 in
theorem kX3_judge (l : Launch) (D : va_G) (cy : Nat → ClassId) (z : Nat) (zv : Nat) (zr : Int32) (zc : Int32) (zs : Int32) (zvn : Nat) (zvf : Nat → Int32) {res : Int32 × (Nat → Int32)} (hR : fX3_judge zr zc zvf = some res) : YM l D cy yX3_judge hX3_judge 4 0 0 [.ref z] [[(z, .inr (5, [.ref zv, .int zr, .int zc, .int zs]))], [(zv, .inr (6, [.ref zvn]))], [(zvn, .inl (cy 1, 81, .inl zvf))]] (fun v u => v = some (.int res.1) ∧ u = [[(z, .inr (5, [.ref zv, .int zr, .int zc, .int zs]))], [(zv, .inr (6, [.ref zvn]))], [(zvn, .inl (cy 1, 81, .inl res.2))]]) := by
  unfold fX3_judge at hR
  refine YM.ofI (cc := cX3_judge) (maxL := 6) (ret := (some .int)) (by decide +kernel) rfl (Nat.le_of_ble_eq_true rfl) [(0, .ref z)] rfl rfl (fun p e s m args below meth c A H0 Q C hnm ret => ?_)
  refine xr_iconst (n := 1) (v := 0) C dd_X3_judge_0.1 rfl rfl ?_
  refine xr_istore_n (n := 2) C [(1, .int 0), (0, .ref z)] dd_X3_judge_0.2.1 (by decide) rfl rfl ?_
  refine xr_iconst (n := 3) (v := -1) C dd_X3_judge_0.2.2.1 rfl rfl ?_
  refine xr_istore_n (n := 4) C [(2, .int (-1)), (1, .int 0), (0, .ref z)] dd_X3_judge_0.2.2.2.1 (by decide) rfl rfl ?_
  refine xr_iconst (n := 5) (v := 0) C dd_X3_judge_0.2.2.2.2.1 rfl rfl ?_
  refine xr_istore_n (n := 6) C [(3, .int 0), (2, .int (-1)), (1, .int 0), (0, .ref z)] dd_X3_judge_0.2.2.2.2.2.1 (by decide) rfl rfl ?_
  refine xr_lv (lv' := [(0, .ref z), (1, .int 0), (2, .int (-1)), (3, .int 0)]) [3, 2, 1, 0] rfl ?_
  obtain ⟨b_1, hb_1, hR⟩ := yf_b hR
  have K_1 : X p l e (yR 4 0 0) s m args below meth c D A H0 6 Q [[(z, .inr (5, [.ref zv, .int zr, .int zc, .int zs]))], [(zv, .inr (6, [.ref zvn]))], [(zvn, .inl (cy 1, 81, .inl zvf))]] 0 0 [(0, .ref z), (1, .int b_1.1), (2, .int b_1.2.1)] 33 [] := by
    refine xr_iconst (n := 34) (v := 0) C dd_X3_judge_1.2.2.2.1 rfl rfl ?_
    refine xr_istore_n (n := 35) C [(3, .int 0), (0, .ref z), (1, .int b_1.1), (2, .int b_1.2.1)] dd_X3_judge_1.2.2.2.2.1 (by decide) rfl rfl ?_
    refine xr_iconst (n := 36) (v := -1) C dd_X3_judge_1.2.2.2.2.2.1 rfl rfl ?_
    refine xr_istore (n := 38) C [(4, .int (-1)), (3, .int 0), (0, .ref z), (1, .int b_1.1), (2, .int b_1.2.1)] dd_X3_judge_1.2.2.2.2.2.2.1 (by decide) rfl rfl ?_
    refine xr_iconst (n := 39) (v := 0) C dd_X3_judge_1.2.2.2.2.2.2.2.1 rfl rfl ?_
    refine xr_istore (n := 41) C [(5, .int 0), (4, .int (-1)), (3, .int 0), (0, .ref z), (1, .int b_1.1), (2, .int b_1.2.1)] dd_X3_judge_1.2.2.2.2.2.2.2.2.1 (by decide) rfl rfl ?_
    refine xr_lv (lv' := [(0, .ref z), (1, .int b_1.1), (2, .int b_1.2.1), (3, .int 0), (4, .int (-1)), (5, .int 0)]) [3, 4, 5, 2, 1, 0] rfl ?_
    obtain ⟨b_2, hb_2, hR⟩ := yf_b hR
    have K_2 : X p l e (yR 4 0 0) s m args below meth c D A H0 6 Q [[(z, .inr (5, [.ref zv, .int zr, .int zc, .int zs]))], [(zv, .inr (6, [.ref zvn]))], [(zvn, .inl (cy 1, 81, .inl zvf))]] 0 0 [(0, .ref z), (1, .int b_1.1), (2, .int b_1.2.1), (3, .int b_2.1), (4, .int b_2.2.1)] 72 [] := by
      refine xr_iload_n (n := 73) (j := 1) C dd_X3_judge_2.2.2.2.2.2.2.1 rfl rfl ?_
      refine xr_if_ne (tgt := 82) (n := 76) C dd_X3_judge_2.2.2.2.2.2.2.2.1 rfl rfl (fun c_3 => ?_) (fun c_3 => ?_)
      · replace hR := yf_f c_3 hR
        refine xr_iload_n (n := 83) (j := 1) C dd_X3_judge_2.2.2.2.2.2.2.2.2.2.2.2.2.1 rfl rfl ?_
        refine xr_iconst (n := 84) (v := 1) C dd_X3_judge_2.2.2.2.2.2.2.2.2.2.2.2.2.2.1 rfl rfl ?_
        refine xr_icmp_ne (tgt := 92) (n := 87) C dd_X3_judge_2.2.2.2.2.2.2.2.2.2.2.2.2.2.2.1 rfl rfl (fun c_4 => ?_) (fun c_4 => ?_)
        · replace hR := yf_f c_4 hR
          refine xr_iconst (n := 93) (v := 2) C dd_X3_judge_3.2.2.1 rfl rfl ?_
          obtain rfl := Option.some.inj hR
          exact ret 2 ⟨rfl, rfl⟩ (Nat.le_of_ble_eq_true rfl) (Nat.le_of_ble_eq_true rfl) dd_X3_judge_3.2.2.2.1
        · replace hR := yf_t c_4 hR
          refine xr_iload_n (n := 88) (j := 3) C dd_X3_judge_2.2.2.2.2.2.2.2.2.2.2.2.2.2.2.2.1 rfl rfl ?_
          refine xr_iconst (n := 89) (v := 1) C dd_X3_judge_3.1 rfl rfl ?_
          refine xr_icmp_eq (tgt := 94) (n := 92) C dd_X3_judge_3.2.1 rfl rfl (fun c_5 => ?_) (fun c_5 => ?_)
          · replace hR := yf_t c_5 hR
            refine xr_aload_n (n := 95) (j := 0) C dd_X3_judge_3.2.2.2.2.1 rfl rfl ?_
            refine xr_iload_n (n := 96) (j := 2) C dd_X3_judge_3.2.2.2.2.2.1 rfl rfl ?_
            refine xr_iload (n := 98) (j := 4) C dd_X3_judge_3.2.2.2.2.2.2.1 rfl rfl ?_
            obtain ⟨x_6, hx_6, hR⟩ := yf_b hR
            refine xr_callV (n := 101) (As := [.int b_1.2.1, .int b_2.2.1]) (rest := []) C (kX3_mend l D cy (z := z) (zv := zv) (zr := zr) (zc := zc) (zs := zs) (zvn := zvn) (zvf := zvf) (i1 := b_1.2.1) (i2 := b_2.2.1) hx_6) mX3_mend u_863 u_865 u_26 0 rfl rfl 3 [0, 1, 2] [] rfl (by decide +kernel) rfl rfl rfl rfl (Nat.le_of_ble_eq_true rfl) (Nat.le_of_ble_eq_true rfl) (Nat.le_of_ble_eq_true rfl) (Nat.le_of_ble_eq_true rfl) (Nat.le_of_ble_eq_true rfl) dd_X3_judge_3.2.2.2.2.2.2.2.1 rfl (fun v_7 u_8 hp_9 => ?_)
            obtain ⟨rfl, rfl⟩ := hp_9
            refine xr_perm C 3 [0, 1, 2] [] [[(z, .inr (5, [.ref zv, .int zr, .int zc, .int zs]))], [(zv, .inr (6, [.ref zvn]))], [(zvn, .inl (cy 1, 81, .inl x_6.2))]] rfl (by decide +kernel) rfl ?_
            refine xr_st (st' := [.int x_6.1]) rfl ?_
            obtain rfl := Option.some.inj hR
            exact ret x_6.1 ⟨rfl, rfl⟩ (Nat.le_of_ble_eq_true rfl) (Nat.le_of_ble_eq_true rfl) dd_X3_judge_3.2.2.2.2.2.2.2.2.1
          · replace hR := yf_f c_5 hR
            refine xr_iconst (n := 93) (v := 2) C dd_X3_judge_3.2.2.1 rfl rfl ?_
            obtain rfl := Option.some.inj hR
            exact ret 2 ⟨rfl, rfl⟩ (Nat.le_of_ble_eq_true rfl) (Nat.le_of_ble_eq_true rfl) dd_X3_judge_3.2.2.2.1
      · replace hR := yf_t c_3 hR
        refine xr_iload_n (n := 77) (j := 3) C dd_X3_judge_2.2.2.2.2.2.2.2.2.1 rfl rfl ?_
        refine xr_if_ne (tgt := 82) (n := 80) C dd_X3_judge_2.2.2.2.2.2.2.2.2.2.1 rfl rfl (fun c_10 => ?_) (fun c_10 => ?_)
        · replace hR := yf_f c_10 hR
          refine xr_iload_n (n := 83) (j := 1) C dd_X3_judge_2.2.2.2.2.2.2.2.2.2.2.2.2.1 rfl rfl ?_
          refine xr_iconst (n := 84) (v := 1) C dd_X3_judge_2.2.2.2.2.2.2.2.2.2.2.2.2.2.1 rfl rfl ?_
          refine xr_icmp_ne (tgt := 92) (n := 87) C dd_X3_judge_2.2.2.2.2.2.2.2.2.2.2.2.2.2.2.1 rfl rfl (fun c_11 => ?_) (fun c_11 => ?_)
          · replace hR := yf_f c_11 hR
            refine xr_iconst (n := 93) (v := 2) C dd_X3_judge_3.2.2.1 rfl rfl ?_
            obtain rfl := Option.some.inj hR
            exact ret 2 ⟨rfl, rfl⟩ (Nat.le_of_ble_eq_true rfl) (Nat.le_of_ble_eq_true rfl) dd_X3_judge_3.2.2.2.1
          · replace hR := yf_t c_11 hR
            refine xr_iload_n (n := 88) (j := 3) C dd_X3_judge_2.2.2.2.2.2.2.2.2.2.2.2.2.2.2.2.1 rfl rfl ?_
            refine xr_iconst (n := 89) (v := 1) C dd_X3_judge_3.1 rfl rfl ?_
            refine xr_icmp_eq (tgt := 94) (n := 92) C dd_X3_judge_3.2.1 rfl rfl (fun c_12 => ?_) (fun c_12 => ?_)
            · replace hR := yf_t c_12 hR
              refine xr_aload_n (n := 95) (j := 0) C dd_X3_judge_3.2.2.2.2.1 rfl rfl ?_
              refine xr_iload_n (n := 96) (j := 2) C dd_X3_judge_3.2.2.2.2.2.1 rfl rfl ?_
              refine xr_iload (n := 98) (j := 4) C dd_X3_judge_3.2.2.2.2.2.2.1 rfl rfl ?_
              obtain ⟨x_13, hx_13, hR⟩ := yf_b hR
              refine xr_callV (n := 101) (As := [.int b_1.2.1, .int b_2.2.1]) (rest := []) C (kX3_mend l D cy (z := z) (zv := zv) (zr := zr) (zc := zc) (zs := zs) (zvn := zvn) (zvf := zvf) (i1 := b_1.2.1) (i2 := b_2.2.1) hx_13) mX3_mend u_863 u_865 u_26 0 rfl rfl 3 [0, 1, 2] [] rfl (by decide +kernel) rfl rfl rfl rfl (Nat.le_of_ble_eq_true rfl) (Nat.le_of_ble_eq_true rfl) (Nat.le_of_ble_eq_true rfl) (Nat.le_of_ble_eq_true rfl) (Nat.le_of_ble_eq_true rfl) dd_X3_judge_3.2.2.2.2.2.2.2.1 rfl (fun v_14 u_15 hp_16 => ?_)
              obtain ⟨rfl, rfl⟩ := hp_16
              refine xr_perm C 3 [0, 1, 2] [] [[(z, .inr (5, [.ref zv, .int zr, .int zc, .int zs]))], [(zv, .inr (6, [.ref zvn]))], [(zvn, .inl (cy 1, 81, .inl x_13.2))]] rfl (by decide +kernel) rfl ?_
              refine xr_st (st' := [.int x_13.1]) rfl ?_
              obtain rfl := Option.some.inj hR
              exact ret x_13.1 ⟨rfl, rfl⟩ (Nat.le_of_ble_eq_true rfl) (Nat.le_of_ble_eq_true rfl) dd_X3_judge_3.2.2.2.2.2.2.2.2.1
            · replace hR := yf_f c_12 hR
              refine xr_iconst (n := 93) (v := 2) C dd_X3_judge_3.2.2.1 rfl rfl ?_
              obtain rfl := Option.some.inj hR
              exact ret 2 ⟨rfl, rfl⟩ (Nat.le_of_ble_eq_true rfl) (Nat.le_of_ble_eq_true rfl) dd_X3_judge_3.2.2.2.1
        · replace hR := yf_t c_10 hR
          refine xr_iconst (n := 81) (v := 0) C dd_X3_judge_2.2.2.2.2.2.2.2.2.2.2.1 rfl rfl ?_
          obtain rfl := Option.some.inj hR
          exact ret 0 ⟨rfl, rfl⟩ (Nat.le_of_ble_eq_true rfl) (Nat.le_of_ble_eq_true rfl) dd_X3_judge_2.2.2.2.2.2.2.2.2.2.2.2.1
    refine y_loop (P := fun (s_2 : Int32 × Int32 × Int32) => X p l e (yR 4 0 0) s m args below meth c D A H0 6 Q [[(z, .inr (5, [.ref zv, .int zr, .int zc, .int zs]))], [(zv, .inr (6, [.ref zvn]))], [(zvn, .inl (cy 1, 81, .inl zvf))]] 0 0 [(0, .ref z), (1, .int b_1.1), (2, .int b_1.2.1), (3, .int s_2.1), (4, .int s_2.2.1), (5, .int s_2.2.2)] 41 []) ?_ _ (0, -1, 0) hb_2
    intro s_2 o_2 ho_2 hk_2 hx_2
    refine xr_iload (n := 43) (j := 5) C dd_X3_judge_1.2.2.2.2.2.2.2.2.2.1 rfl rfl ?_
    refine xr_aload_n (n := 44) (j := 0) C dd_X3_judge_1.2.2.2.2.2.2.2.2.2.2.1 rfl rfl ?_
    refine xr_get (n := 47) C 0 rfl rfl 2 (by decide) in_X3 u_178 rfl (v := .int zc) rfl dd_X3_judge_1.2.2.2.2.2.2.2.2.2.2.2.1 rfl ?_
    refine xr_icmp_ge (tgt := 72) (n := 50) C dd_X3_judge_1.2.2.2.2.2.2.2.2.2.2.2.2.1 rfl rfl (fun c_17 => ?_) (fun c_17 => ?_)
    · replace ho_2 := yf_t c_17 ho_2
      refine xr_lv (lv' := [(0, .ref z), (1, .int b_1.1), (2, .int b_1.2.1), (3, .int s_2.1), (4, .int s_2.2.1)]) [0, 1, 2, 3, 4] rfl ?_
      have e_18 := hx_2 _ (Option.some.inj ho_2).symm
      subst e_18
      exact K_2
    · replace ho_2 := yf_f c_17 ho_2
      refine xr_aload_n (n := 51) (j := 0) C dd_X3_judge_1.2.2.2.2.2.2.2.2.2.2.2.2.2.1 rfl rfl ?_
      refine xr_iload (n := 53) (j := 5) C dd_X3_judge_1.2.2.2.2.2.2.2.2.2.2.2.2.2.2.1 rfl rfl ?_
      obtain ⟨x_19, hx_19, ho_2⟩ := yf_b ho_2
      refine xr_callVp (n := 56) (As := [.int s_2.2.2]) (rest := []) C (kX3_columnError l D cy (z := z) (zv := zv) (zr := zr) (zc := zc) (zs := zs) (zvn := zvn) (zvf := zvf) (i1 := s_2.2.2) hx_19) mX3_columnError u_859 u_861 u_25 0 rfl rfl 3 [0, 1, 2] [] rfl (by decide +kernel) rfl rfl rfl rfl (Nat.le_of_ble_eq_true rfl) (Nat.le_of_ble_eq_true rfl) (Nat.le_of_ble_eq_true rfl) (Nat.le_of_ble_eq_true rfl) (Nat.le_of_ble_eq_true rfl) dd_X3_judge_1.2.2.2.2.2.2.2.2.2.2.2.2.2.2.2.1 rfl (fun _ _ hp => hp.2) (fun v_20 hp_22 => ?_)
      obtain ⟨rfl, -⟩ := hp_22
      refine xr_st (st' := [.int x_19]) rfl ?_
      refine xr_if_eq (tgt := 66) (n := 59) C dd_X3_judge_2.1 rfl rfl (fun c_23 => ?_) (fun c_23 => ?_)
      · replace ho_2 := yf_t c_23 ho_2
        refine xr_iinc (j := 5) (v := s_2.2.2 + 1) (n := 69) C [(5, .int (s_2.2.2 + 1)), (0, .ref z), (1, .int b_1.1), (2, .int b_1.2.1), (3, .int s_2.1), (4, .int s_2.2.1)] dd_X3_judge_2.2.2.2.2.1 rfl rfl (by decide) rfl rfl ?_
        refine xr_goto (tgt := 41) C dd_X3_judge_2.2.2.2.2.2.1 rfl ?_
        refine xr_lv (lv' := [(0, .ref z), (1, .int b_1.1), (2, .int b_1.2.1), (3, .int s_2.1), (4, .int s_2.2.1), (5, .int (s_2.2.2 + 1))]) [1, 2, 3, 4, 5, 0] rfl ?_
        exact hk_2 (s_2.1, s_2.2.1, s_2.2.2 + 1) (Option.some.inj ho_2).symm
      · replace ho_2 := yf_f c_23 ho_2
        refine xr_iinc (j := 3) (v := s_2.1 + 1) (n := 62) C [(3, .int (s_2.1 + 1)), (0, .ref z), (1, .int b_1.1), (2, .int b_1.2.1), (4, .int s_2.2.1), (5, .int s_2.2.2)] dd_X3_judge_2.2.1 rfl rfl (by decide) rfl rfl ?_
        refine xr_iload (n := 64) (j := 5) C dd_X3_judge_2.2.2.1 rfl rfl ?_
        refine xr_istore (n := 66) C [(4, .int s_2.2.2), (3, .int (s_2.1 + 1)), (0, .ref z), (1, .int b_1.1), (2, .int b_1.2.1), (5, .int s_2.2.2)] dd_X3_judge_2.2.2.2.1 (by decide) rfl rfl ?_
        refine xr_iinc (j := 5) (v := s_2.2.2 + 1) (n := 69) C [(5, .int (s_2.2.2 + 1)), (4, .int s_2.2.2), (3, .int (s_2.1 + 1)), (0, .ref z), (1, .int b_1.1), (2, .int b_1.2.1)] dd_X3_judge_2.2.2.2.2.1 rfl rfl (by decide) rfl rfl ?_
        refine xr_goto (tgt := 41) C dd_X3_judge_2.2.2.2.2.2.1 rfl ?_
        refine xr_lv (lv' := [(0, .ref z), (1, .int b_1.1), (2, .int b_1.2.1), (3, .int (s_2.1 + 1)), (4, .int s_2.2.2), (5, .int (s_2.2.2 + 1))]) [3, 4, 5, 2, 1, 0] rfl ?_
        exact hk_2 (s_2.1 + 1, s_2.2.2, s_2.2.2 + 1) (Option.some.inj ho_2).symm
  refine y_loop (P := fun (s_1 : Int32 × Int32 × Int32) => X p l e (yR 4 0 0) s m args below meth c D A H0 6 Q [[(z, .inr (5, [.ref zv, .int zr, .int zc, .int zs]))], [(zv, .inr (6, [.ref zvn]))], [(zvn, .inl (cy 1, 81, .inl zvf))]] 0 0 [(0, .ref z), (1, .int s_1.1), (2, .int s_1.2.1), (3, .int s_1.2.2)] 6 []) ?_ _ (0, -1, 0) hb_1
  intro s_1 o_1 ho_1 hk_1 hx_1
  refine xr_iload_n (n := 7) (j := 3) C dd_X3_judge_0.2.2.2.2.2.2.1 rfl rfl ?_
  refine xr_aload_n (n := 8) (j := 0) C dd_X3_judge_0.2.2.2.2.2.2.2.1 rfl rfl ?_
  refine xr_get (n := 11) C 0 rfl rfl 1 (by decide) in_X3 u_176 rfl (v := .int zr) rfl dd_X3_judge_0.2.2.2.2.2.2.2.2.1 rfl ?_
  refine xr_icmp_ge (tgt := 33) (n := 14) C dd_X3_judge_0.2.2.2.2.2.2.2.2.2.1 rfl rfl (fun c_24 => ?_) (fun c_24 => ?_)
  · replace ho_1 := yf_t c_24 ho_1
    refine xr_lv (lv' := [(0, .ref z), (1, .int s_1.1), (2, .int s_1.2.1)]) [0, 1, 2] rfl ?_
    have e_25 := hx_1 _ (Option.some.inj ho_1).symm
    subst e_25
    exact K_1
  · replace ho_1 := yf_f c_24 ho_1
    refine xr_aload_n (n := 15) (j := 0) C dd_X3_judge_0.2.2.2.2.2.2.2.2.2.2.1 rfl rfl ?_
    refine xr_iload_n (n := 16) (j := 3) C dd_X3_judge_0.2.2.2.2.2.2.2.2.2.2.2.1 rfl rfl ?_
    obtain ⟨x_26, hx_26, ho_1⟩ := yf_b ho_1
    refine xr_callVp (n := 19) (As := [.int s_1.2.2]) (rest := []) C (kX3_rowError l D cy (z := z) (zv := zv) (zr := zr) (zc := zc) (zs := zs) (zvn := zvn) (zvf := zvf) (i1 := s_1.2.2) hx_26) mX3_rowError u_854 u_856 u_24 0 rfl rfl 3 [0, 1, 2] [] rfl (by decide +kernel) rfl rfl rfl rfl (Nat.le_of_ble_eq_true rfl) (Nat.le_of_ble_eq_true rfl) (Nat.le_of_ble_eq_true rfl) (Nat.le_of_ble_eq_true rfl) (Nat.le_of_ble_eq_true rfl) dd_X3_judge_0.2.2.2.2.2.2.2.2.2.2.2.2.1 rfl (fun _ _ hp => hp.2) (fun v_27 hp_29 => ?_)
    obtain ⟨rfl, -⟩ := hp_29
    refine xr_st (st' := [.int x_26]) rfl ?_
    refine xr_if_eq (tgt := 27) (n := 22) C dd_X3_judge_0.2.2.2.2.2.2.2.2.2.2.2.2.2.1 rfl rfl (fun c_30 => ?_) (fun c_30 => ?_)
    · replace ho_1 := yf_t c_30 ho_1
      refine xr_iinc (j := 3) (v := s_1.2.2 + 1) (n := 30) C [(3, .int (s_1.2.2 + 1)), (0, .ref z), (1, .int s_1.1), (2, .int s_1.2.1)] dd_X3_judge_1.2.1 rfl rfl (by decide) rfl rfl ?_
      refine xr_goto (tgt := 6) C dd_X3_judge_1.2.2.1 rfl ?_
      refine xr_lv (lv' := [(0, .ref z), (1, .int s_1.1), (2, .int s_1.2.1), (3, .int (s_1.2.2 + 1))]) [1, 2, 3, 0] rfl ?_
      exact hk_1 (s_1.1, s_1.2.1, s_1.2.2 + 1) (Option.some.inj ho_1).symm
    · replace ho_1 := yf_f c_30 ho_1
      refine xr_iinc (j := 1) (v := s_1.1 + 1) (n := 25) C [(1, .int (s_1.1 + 1)), (0, .ref z), (2, .int s_1.2.1), (3, .int s_1.2.2)] dd_X3_judge_0.2.2.2.2.2.2.2.2.2.2.2.2.2.2.1 rfl rfl (by decide) rfl rfl ?_
      refine xr_iload_n (n := 26) (j := 3) C dd_X3_judge_0.2.2.2.2.2.2.2.2.2.2.2.2.2.2.2.1 rfl rfl ?_
      refine xr_istore_n (n := 27) C [(2, .int s_1.2.2), (1, .int (s_1.1 + 1)), (0, .ref z), (3, .int s_1.2.2)] dd_X3_judge_1.1 (by decide) rfl rfl ?_
      refine xr_iinc (j := 3) (v := s_1.2.2 + 1) (n := 30) C [(3, .int (s_1.2.2 + 1)), (2, .int s_1.2.2), (1, .int (s_1.1 + 1)), (0, .ref z)] dd_X3_judge_1.2.1 rfl rfl (by decide) rfl rfl ?_
      refine xr_goto (tgt := 6) C dd_X3_judge_1.2.2.1 rfl ?_
      refine xr_lv (lv' := [(0, .ref z), (1, .int (s_1.1 + 1)), (2, .int s_1.2.2), (3, .int (s_1.2.2 + 1))]) [3, 2, 1, 0] rfl ?_
      exact hk_1 (s_1.1 + 1, s_1.2.2, s_1.2.2 + 1) (Option.some.inj ho_1).symm
theorem dd_X5_memberOf_0 : dk_R cX5_memberOf [(0, .iconst 0, 1), (1, .istore_n 2, 1), (2, .iconst 0, 1), (3, .istore_n 3, 1), (4, .iload_n 3, 1), (5, .bipush 8, 2), (7, .if_icmp .ge 27, 3), (10, .iload_n 0, 1), (11, .iload_n 3, 1), (12, .ishr, 1), (13, .iconst 1, 1), (14, .iand, 1), (15, .ifCond .eq 13, 3), (18, .iload_n 2, 1), (19, .iload_n 1, 1), (20, .if_icmp .ne 5, 3)] := dk_use _ _ (by decide +kernel)
theorem dd_X5_memberOf_1 : dk_R cX5_memberOf [(23, .iload_n 3, 1), (24, .ireturn, 1), (25, .iinc 2 1, 3), (28, .iinc 3 1, 3), (31, .goto (-27), 3), (34, .iconst (-1), 1), (35, .ireturn, 1)] := dk_use _ _ (by decide +kernel)
def fX5_memberOf (i1 : Int32) (i2 : Int32) : Option (Int32) := ((wl (S := Int32 × Int32) (B := (Int32 × Int32) ⊕ Int32) (fun s_1 => (if 8 ≤ s_1.2 then some (.inr (.inl (s_1.1, s_1.2))) else (if ((i1 >>> (s_1.2 &&& 31)) &&& 1) = 0 then some (.inl (s_1.1, s_1.2 + 1)) else (if s_1.1 = i2 then some (.inr (.inr s_1.2)) else some (.inl (s_1.1 + 1, s_1.2 + 1)))))) yFuel (0, 0)).bind fun b_1 => ybr b_1 (fun z_1 => some (-1)) (fun r => some r))
abbrev hX5_memberOf : Cond := .code yX5_memberOf cX5_memberOf 4 (some .int)
theorem mX5_memberOf : yM yX5_memberOf hX5_memberOf 2 := ⟨u_806, u_62, by decide +kernel, by decide +kernel, by decide +kernel⟩
set_option maxHeartbeats 4000000 in
set_option maxRecDepth 100000 in
theorem kX5_memberOf (l : Launch) (D : va_G) (cy : Nat → ClassId) (i1 : Int32) (i2 : Int32) {res : Int32} (hR : fX5_memberOf i1 i2 = some res) : YM l D cy yX5_memberOf hX5_memberOf 1 0 0 [.int i1, .int i2] [] (fun v u => v = some (.int res) ∧ u = []) := by
  unfold fX5_memberOf at hR
  refine YM.ofI (cc := cX5_memberOf) (maxL := 4) (ret := (some .int)) (by decide +kernel) rfl (Nat.le_of_ble_eq_true rfl) [(0, .int i1), (1, .int i2)] rfl rfl (fun p e s m args below meth c A H0 Q C hnm ret => ?_)
  refine xr_iconst (n := 1) (v := 0) C dd_X5_memberOf_0.1 rfl rfl ?_
  refine xr_istore_n (n := 2) C [(2, .int 0), (0, .int i1), (1, .int i2)] dd_X5_memberOf_0.2.1 (by decide) rfl rfl ?_
  refine xr_iconst (n := 3) (v := 0) C dd_X5_memberOf_0.2.2.1 rfl rfl ?_
  refine xr_istore_n (n := 4) C [(3, .int 0), (2, .int 0), (0, .int i1), (1, .int i2)] dd_X5_memberOf_0.2.2.2.1 (by decide) rfl rfl ?_
  refine xr_lv (lv' := [(0, .int i1), (1, .int i2), (2, .int 0), (3, .int 0)]) [2, 3, 1, 0] rfl ?_
  obtain ⟨b_1, hb_1, hR⟩ := yf_b hR
  have K_1 : ∀ z_1, b_1 = .inl z_1 → X p l e (yR 1 0 0) s m args below meth c D A H0 4 Q [] 0 0 [] 34 [] := by
    intro z_1 e_1; subst e_1; replace hR := ybr_l hR
    refine xr_iconst (n := 35) (v := -1) C dd_X5_memberOf_1.2.2.2.2.2.1 rfl rfl ?_
    obtain rfl := Option.some.inj hR
    exact ret (-1) ⟨rfl, rfl⟩ (Nat.le_of_ble_eq_true rfl) (Nat.le_of_ble_eq_true rfl) dd_X5_memberOf_1.2.2.2.2.2.2.1
  refine y_loop (P := fun (s_1 : Int32 × Int32) => X p l e (yR 1 0 0) s m args below meth c D A H0 4 Q [] 0 0 [(0, .int i1), (1, .int i2), (2, .int s_1.1), (3, .int s_1.2)] 4 []) ?_ _ (0, 0) hb_1
  intro s_1 o_1 ho_1 hk_1 hx_1
  refine xr_iload_n (n := 5) (j := 3) C dd_X5_memberOf_0.2.2.2.2.1 rfl rfl ?_
  refine xr_bipush (n := 7) (v := 8) C dd_X5_memberOf_0.2.2.2.2.2.1 rfl rfl ?_
  refine xr_icmp_ge (tgt := 34) (n := 10) C dd_X5_memberOf_0.2.2.2.2.2.2.1 rfl rfl (fun c_2 => ?_) (fun c_2 => ?_)
  · replace ho_1 := yf_t c_2 ho_1
    refine xr_lv (lv' := []) [] rfl ?_
    have e_3 := hx_1 _ (Option.some.inj ho_1).symm
    exact K_1 (s_1.1, s_1.2) e_3.symm
  · replace ho_1 := yf_f c_2 ho_1
    refine xr_iload_n (n := 11) (j := 0) C dd_X5_memberOf_0.2.2.2.2.2.2.2.1 rfl rfl ?_
    refine xr_iload_n (n := 12) (j := 3) C dd_X5_memberOf_0.2.2.2.2.2.2.2.2.1 rfl rfl ?_
    refine xr_ishr (n := 13) C dd_X5_memberOf_0.2.2.2.2.2.2.2.2.2.1 rfl ?_
    refine xr_iconst (n := 14) (v := 1) C dd_X5_memberOf_0.2.2.2.2.2.2.2.2.2.2.1 rfl rfl ?_
    refine xr_iand (n := 15) C dd_X5_memberOf_0.2.2.2.2.2.2.2.2.2.2.2.1 rfl ?_
    refine xr_if_eq (tgt := 28) (n := 18) C dd_X5_memberOf_0.2.2.2.2.2.2.2.2.2.2.2.2.1 rfl rfl (fun c_4 => ?_) (fun c_4 => ?_)
    · replace ho_1 := yf_t c_4 ho_1
      refine xr_iinc (j := 3) (v := s_1.2 + 1) (n := 31) C [(3, .int (s_1.2 + 1)), (0, .int i1), (1, .int i2), (2, .int s_1.1)] dd_X5_memberOf_1.2.2.2.1 rfl rfl (by decide) rfl rfl ?_
      refine xr_goto (tgt := 4) C dd_X5_memberOf_1.2.2.2.2.1 rfl ?_
      refine xr_lv (lv' := [(0, .int i1), (1, .int i2), (2, .int s_1.1), (3, .int (s_1.2 + 1))]) [1, 2, 3, 0] rfl ?_
      exact hk_1 (s_1.1, s_1.2 + 1) (Option.some.inj ho_1).symm
    · replace ho_1 := yf_f c_4 ho_1
      refine xr_iload_n (n := 19) (j := 2) C dd_X5_memberOf_0.2.2.2.2.2.2.2.2.2.2.2.2.2.1 rfl rfl ?_
      refine xr_iload_n (n := 20) (j := 1) C dd_X5_memberOf_0.2.2.2.2.2.2.2.2.2.2.2.2.2.2.1 rfl rfl ?_
      refine xr_icmp_ne (tgt := 25) (n := 23) C dd_X5_memberOf_0.2.2.2.2.2.2.2.2.2.2.2.2.2.2.2.1 rfl rfl (fun c_5 => ?_) (fun c_5 => ?_)
      · replace ho_1 := yf_f c_5 ho_1
        refine xr_iinc (j := 2) (v := s_1.1 + 1) (n := 28) C [(2, .int (s_1.1 + 1)), (0, .int i1), (1, .int i2), (3, .int s_1.2)] dd_X5_memberOf_1.2.2.1 rfl rfl (by decide) rfl rfl ?_
        refine xr_iinc (j := 3) (v := s_1.2 + 1) (n := 31) C [(3, .int (s_1.2 + 1)), (2, .int (s_1.1 + 1)), (0, .int i1), (1, .int i2)] dd_X5_memberOf_1.2.2.2.1 rfl rfl (by decide) rfl rfl ?_
        refine xr_goto (tgt := 4) C dd_X5_memberOf_1.2.2.2.2.1 rfl ?_
        refine xr_lv (lv' := [(0, .int i1), (1, .int i2), (2, .int (s_1.1 + 1)), (3, .int (s_1.2 + 1))]) [2, 3, 1, 0] rfl ?_
        exact hk_1 (s_1.1 + 1, s_1.2 + 1) (Option.some.inj ho_1).symm
      · replace ho_1 := yf_t c_5 ho_1
        refine xr_iload_n (n := 24) (j := 3) C dd_X5_memberOf_1.1 rfl rfl ?_
        have e_6 := hx_1 _ (Option.some.inj ho_1).symm
        subst e_6
        replace hR := ybr_r hR
        obtain rfl := Option.some.inj hR
        exact ret s_1.2 ⟨rfl, rfl⟩ (Nat.le_of_ble_eq_true rfl) (Nat.le_of_ble_eq_true rfl) dd_X5_memberOf_1.2.1
theorem dd_X5_placeOf_0 : dk_R cX5_placeOf [(0, .iload_n 0, 1), (1, .iconst 1, 1), (2, .iload_n 1, 1), (3, .ishl, 1), (4, .iconst 1, 1), (5, .isub, 1), (6, .iand, 1), (7, .invokestatic 178, 3), (10, .ireturn, 1)] := dk_use _ _ (by decide +kernel)
def fX5_placeOf (i1 : Int32) (i2 : Int32) : Option (Int32) := ((fJ6_bitCount_0f7a4 (i1 &&& (((1 : Int32) <<< (i2 &&& 31)) - 1))).bind fun x_1 => some x_1)
abbrev hX5_placeOf : Cond := .code yX5_placeOf cX5_placeOf 2 (some .int)
theorem mX5_placeOf : yM yX5_placeOf hX5_placeOf 2 := ⟨u_503, u_62, by decide +kernel, by decide +kernel, by decide +kernel⟩
set_option maxHeartbeats 4000000 in
set_option maxRecDepth 100000 in
theorem kX5_placeOf (l : Launch) (D : va_G) (cy : Nat → ClassId) (i1 : Int32) (i2 : Int32) {res : Int32} (hR : fX5_placeOf i1 i2 = some res) : YM l D cy yX5_placeOf hX5_placeOf 2 0 0 [.int i1, .int i2] [] (fun v u => v = some (.int res) ∧ u = []) := by
  unfold fX5_placeOf at hR
  refine YM.ofI (cc := cX5_placeOf) (maxL := 2) (ret := (some .int)) (by decide +kernel) rfl (Nat.le_of_ble_eq_true rfl) [(0, .int i1), (1, .int i2)] rfl rfl (fun p e s m args below meth c A H0 Q C hnm ret => ?_)
  refine xr_iload_n (n := 1) (j := 0) C dd_X5_placeOf_0.1 rfl rfl ?_
  refine xr_iconst (n := 2) (v := 1) C dd_X5_placeOf_0.2.1 rfl rfl ?_
  refine xr_iload_n (n := 3) (j := 1) C dd_X5_placeOf_0.2.2.1 rfl rfl ?_
  refine xr_ishl (n := 4) C dd_X5_placeOf_0.2.2.2.1 rfl ?_
  refine xr_iconst (n := 5) (v := 1) C dd_X5_placeOf_0.2.2.2.2.1 rfl rfl ?_
  refine xr_isub (n := 6) C dd_X5_placeOf_0.2.2.2.2.2.1 rfl ?_
  refine xr_iand (n := 7) C dd_X5_placeOf_0.2.2.2.2.2.2.1 rfl ?_
  obtain ⟨x_1, hx_1, hR⟩ := yf_b hR
  refine xr_callSp (n := 10) (As := [.int (i1 &&& (((1 : Int32) <<< (i2 &&& 31)) - 1))]) (rest := []) C (kJ6_bitCount_0f7a4 l D cy (i1 := i1 &&& (((1 : Int32) <<< (i2 &&& 31)) - 1)) hx_1) mJ6_bitCount_0f7a4 u_504 u_349 0 [] [] rfl (by decide +kernel) rfl rfl rfl rfl (Nat.le_of_ble_eq_true rfl) (Nat.le_of_ble_eq_true rfl) (Nat.le_of_ble_eq_true rfl) (Nat.le_of_ble_eq_true rfl) (Nat.le_of_ble_eq_true rfl) dd_X5_placeOf_0.2.2.2.2.2.2.2.1 rfl (fun _ _ hp => hp.2) (fun v_2 hp_4 => ?_)
  obtain ⟨rfl, -⟩ := hp_4
  refine xr_st (st' := [.int x_1]) rfl ?_
  obtain rfl := Option.some.inj hR
  exact ret x_1 ⟨rfl, rfl⟩ (Nat.le_of_ble_eq_true rfl) (Nat.le_of_ble_eq_true rfl) dd_X5_placeOf_0.2.2.2.2.2.2.2.2.1
theorem dd_X5_runs_0 : dk_R cX5_runs [(0, .aload_n 0, 1), (1, .getfield 41, 3), (4, .ifCond .le 7, 3), (7, .iconst 1, 1), (8, .goto 4, 3), (11, .iconst 0, 1), (12, .ireturn, 1)] := dk_use _ _ (by decide +kernel)
def fX5_runs (obl : Int32) : Option (Int32) := (if obl ≤ 0 then some 0 else some 1)
abbrev hX5_runs : Cond := .code yX5_runs cX5_runs 1 (some .boolean)
theorem mX5_runs : yM yX5_runs hX5_runs 0 := ⟨u_432, u_62, by decide +kernel, by decide +kernel, by decide +kernel⟩
set_option maxHeartbeats 4000000 in
set_option maxRecDepth 100000 in
theorem kX5_runs (l : Launch) (D : va_G) (cy : Nat → ClassId) (o : Nat) (oj : Nat) (oy : Nat) (osk : Int32) (oti : Int32) (ofr : Int32) (ofc : Int32) (obt : Int32) (obl : Int32) (obe : Int32) (ose : Int32) (otk : Int32) {res : Int32} (hR : fX5_runs obl = some res) : YM l D cy yX5_runs hX5_runs 1 0 0 [.ref o] [[(o, .inr (7, [.ref oj, .ref oy, .int osk, .int oti, .int ofr, .int ofc, .int obt, .int obl, .int obe, .int ose, .int otk]))]] (fun v u => v = some (.int res) ∧ u = [[(o, .inr (7, [.ref oj, .ref oy, .int osk, .int oti, .int ofr, .int ofc, .int obt, .int obl, .int obe, .int ose, .int otk]))]]) := by
  unfold fX5_runs at hR
  refine YM.ofZ (cc := cX5_runs) (maxL := 1) (ret := (some .boolean)) (by decide +kernel) rfl (Nat.le_of_ble_eq_true rfl) [(0, .ref o)] rfl .boolean rfl (fun p e s m args below meth c A H0 Q C hnm ret => ?_)
  refine xr_aload_n (n := 1) (j := 0) C dd_X5_runs_0.1 rfl rfl ?_
  refine xr_get (n := 4) C 0 rfl rfl 7 (by decide) in_X5 u_256 rfl (v := .int obl) rfl dd_X5_runs_0.2.1 rfl ?_
  refine xr_if_le (tgt := 11) (n := 7) C dd_X5_runs_0.2.2.1 rfl rfl (fun c_1 => ?_) (fun c_1 => ?_)
  · replace hR := yf_t c_1 hR
    refine xr_iconst (n := 12) (v := 0) C dd_X5_runs_0.2.2.2.2.2.1 rfl rfl ?_
    obtain rfl := Option.some.inj hR
    exact ret 0 (by decide) ⟨rfl, rfl⟩ (Nat.le_of_ble_eq_true rfl) (Nat.le_of_ble_eq_true rfl) dd_X5_runs_0.2.2.2.2.2.2.1
  · replace hR := yf_f c_1 hR
    refine xr_iconst (n := 8) (v := 1) C dd_X5_runs_0.2.2.2.1 rfl rfl ?_
    refine xr_goto (tgt := 12) C dd_X5_runs_0.2.2.2.2.1 rfl ?_
    obtain rfl := Option.some.inj hR
    exact ret 1 (by decide) ⟨rfl, rfl⟩ (Nat.le_of_ble_eq_true rfl) (Nat.le_of_ble_eq_true rfl) dd_X5_runs_0.2.2.2.2.2.2.1
