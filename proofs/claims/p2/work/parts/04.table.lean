/-- a table's number, with the test of the index -/
def mt_get (f : Nat → Int32) (row col : Int32) : Int32 := if row < 0 ∨ 9 ≤ row ∨ col < 0 ∨ 9 ≤ col then 0 else f (row * 9 + col).toNatClampNeg
theorem mt_in {row col : Int32} (h1 : ¬ row < 0) (h2 : ¬ 9 ≤ row) (h3 : ¬ col < 0) (h4 : col < 9) : vp_in (row * 9 + col) 81 := by
  obtain ⟨i, hi, rfl⟩ := nI_of h1
  obtain ⟨j, hj, rfl⟩ := nI_of h3
  have hi9 : i < 9 := Nat.lt_of_not_le fun q => h2 (nI_le q (by omega))
  have hj9 : j < 9 := (nI_ltI (by omega) (by omega)).mp h4
  rw [show (9 : Int32) = nI 9 from rfl, pk_mul, nI_add]
  exact vp_in_nI (by omega) (by omega)
theorem dX4_get_0 : decode cX4_get 0 = .ok (.iload_n 1, 1) := by decide +kernel
theorem dX4_get_1 : decode cX4_get 1 = .ok (.ifCond .lt 19, 3) := by decide +kernel
theorem dX4_get_4 : decode cX4_get 4 = .ok (.iload_n 1, 1) := by decide +kernel
theorem dX4_get_5 : decode cX4_get 5 = .ok (.bipush 9, 2) := by decide +kernel
theorem dX4_get_7 : decode cX4_get 7 = .ok (.if_icmp .ge 13, 3) := by decide +kernel
theorem dX4_get_10 : decode cX4_get 10 = .ok (.iload_n 2, 1) := by decide +kernel
theorem dX4_get_11 : decode cX4_get 11 = .ok (.ifCond .lt 9, 3) := by decide +kernel
theorem dX4_get_14 : decode cX4_get 14 = .ok (.iload_n 2, 1) := by decide +kernel
theorem dX4_get_15 : decode cX4_get 15 = .ok (.bipush 9, 2) := by decide +kernel
theorem dX4_get_17 : decode cX4_get 17 = .ok (.if_icmp .lt 5, 3) := by decide +kernel
theorem dX4_get_20 : decode cX4_get 20 = .ok (.iconst 0, 1) := by decide +kernel
theorem dX4_get_21 : decode cX4_get 21 = .ok (.ireturn, 1) := by decide +kernel
theorem dX4_get_22 : decode cX4_get 22 = .ok (.aload_n 0, 1) := by decide +kernel
theorem dX4_get_23 : decode cX4_get 23 = .ok (.getfield 9, 3) := by decide +kernel
theorem dX4_get_26 : decode cX4_get 26 = .ok (.iload_n 1, 1) := by decide +kernel
theorem dX4_get_27 : decode cX4_get 27 = .ok (.bipush 9, 2) := by decide +kernel
theorem dX4_get_29 : decode cX4_get 29 = .ok (.imul, 1) := by decide +kernel
theorem dX4_get_30 : decode cX4_get 30 = .ok (.iload_n 2, 1) := by decide +kernel
theorem dX4_get_31 : decode cX4_get 31 = .ok (.iadd, 1) := by decide +kernel
theorem dX4_get_32 : decode cX4_get 32 = .ok (.iaload, 1) := by decide +kernel
theorem dX4_get_33 : decode cX4_get 33 = .ok (.ireturn, 1) := by decide +kernel
abbrev rmX4_get : Room := { frames := 0, cells := 0, slots := 0, locals := 0 }
set_option maxRecDepth 20000 in
theorem in_X4_get_X4 : ∀ w ∈ wsX40, w ∈ wsX4_get := by decide +kernel
set_option maxHeartbeats 4000000 in
set_option maxRecDepth 100000 in
theorem kX4_get (l : Launch) (D : va_G) (cy : Nat → ClassId) (h nn : Nat) (f : Nat → Int32) (row col : Int32) : XI l D cy yX4_get wsX4_get rmX4_get [.ref h, .int row, .int col] [[(h, .inr (6, [.ref nn]))], [(nn, .inl (cy 1, 81, .inl f))]] (fun r u => r = mt_get f row col ∧ u = [[(h, .inr (6, [.ref nn]))], [(nn, .inl (cy 1, 81, .inl f))]]) := by
  refine XI.of (cc := cX4_get) (maxL := 3) (ret := (some .int)) (by decide) rfl (by decide) [(0, .ref h), (1, .int row), (2, .int col)] rfl rfl (fun p e s m args below meth c A H0 Q C hnm ret => ?_)
  refine xr_iload_n (j := 1) (n := 1) C dX4_get_0 rfl rfl ?_
  refine xr_if_lt (tgt := 20) (n := 4) C dX4_get_1 rfl rfl (fun c_1 => ?_) (fun c_1 => ?_)
  · refine xr_iconst (v := 0) (n := 21) C dX4_get_20 rfl rfl ?_
    refine ret 0 ?_ (Nat.le_of_ble_eq_true rfl) (Nat.le_of_ble_eq_true rfl) dX4_get_21
    exact ⟨by unfold mt_get; simp_all, rfl⟩
  · refine xr_iload_n (j := 1) (n := 5) C dX4_get_4 rfl rfl ?_
    refine xr_bipush (v := 9) (n := 7) C dX4_get_5 rfl rfl ?_
    refine xr_icmp_ge (tgt := 20) (n := 10) C dX4_get_7 rfl rfl (fun c_2 => ?_) (fun c_2 => ?_)
    · refine xr_iconst (v := 0) (n := 21) C dX4_get_20 rfl rfl ?_
      refine ret 0 ?_ (Nat.le_of_ble_eq_true rfl) (Nat.le_of_ble_eq_true rfl) dX4_get_21
      exact ⟨by unfold mt_get; simp_all, rfl⟩
    · refine xr_iload_n (j := 2) (n := 11) C dX4_get_10 rfl rfl ?_
      refine xr_if_lt (tgt := 20) (n := 14) C dX4_get_11 rfl rfl (fun c_3 => ?_) (fun c_3 => ?_)
      · refine xr_iconst (v := 0) (n := 21) C dX4_get_20 rfl rfl ?_
        refine ret 0 ?_ (Nat.le_of_ble_eq_true rfl) (Nat.le_of_ble_eq_true rfl) dX4_get_21
        exact ⟨by unfold mt_get; simp_all, rfl⟩
      · refine xr_iload_n (j := 2) (n := 15) C dX4_get_14 rfl rfl ?_
        refine xr_bipush (v := 9) (n := 17) C dX4_get_15 rfl rfl ?_
        refine xr_icmp_lt (tgt := 22) (n := 20) C dX4_get_17 rfl rfl (fun c_4 => ?_) (fun c_4 => ?_)
        · refine xr_aload_n (j := 0) (n := 23) C dX4_get_22 rfl rfl ?_
          refine xr_get (n := 26) C 0 rfl rfl 0 (by decide) in_X4_get_X4 (List.mem_of_getElem? (i := 1) rfl) rfl (v := .ref nn) rfl dX4_get_23 rfl ?_
          refine xr_iload_n (j := 1) (n := 27) C dX4_get_26 rfl rfl ?_
          refine xr_bipush (v := 9) (n := 29) C dX4_get_27 rfl rfl ?_
          refine xr_imul (n := 30) C dX4_get_29 rfl ?_
          refine xr_iload_n (j := 2) (n := 31) C dX4_get_30 rfl rfl ?_
          refine xr_iadd (n := 32) C dX4_get_31 rfl ?_
          refine xr_iald (n := 33) C 1 0 rfl rfl rfl (mt_in c_1 c_2 c_3 c_4) dX4_get_32 rfl ?_
          refine ret (f ((row * 9) + col).toNatClampNeg) ?_ (Nat.le_of_ble_eq_true rfl) (Nat.le_of_ble_eq_true rfl) dX4_get_33
          exact ⟨by unfold mt_get; simp_all, rfl⟩
        · refine xr_iconst (v := 0) (n := 21) C dX4_get_20 rfl rfl ?_
          refine ret 0 ?_ (Nat.le_of_ble_eq_true rfl) (Nat.le_of_ble_eq_true rfl) dX4_get_21
          exact ⟨by unfold mt_get; simp_all, rfl⟩
