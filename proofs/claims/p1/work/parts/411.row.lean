/-! rows as texts -/
abbrev Ch (x : Int32) : Prop := x = 46 ∨ x = 63 ∨ x = 111 ∨ x = 120
abbrev Fb (f : Nat → Int32) : Prop := ∀ i, fits .byte (.int (f i)) = true
theorem yi_ch {f : Nat → Int32} {k : Nat} {x : Int32} (hf : Fb f) (hx : Ch x) : Fb (upd f k (vp_nar .byte x.toInt8.toInt32)) := by
  intro i
  unfold upd
  by_cases h : i = k
  · rw [if_pos h]
    rcases hx with rfl | rfl | rfl | rfl <;> decide
  · rw [if_neg h]
    exact hf i
theorem o_J4_append {hc : Int32} {hf : Nat → Int32} {x : Int32} (h0 : 0 ≤ hc.toInt) (h1 : hc.toInt < 16) (hx : Ch x) (hb : Fb hf) : Ok (fJ4_append_cf468 hc hf 16 x) (fun r => r.1 = hc + 1 ∧ Fb r.2) := by
  unfold fJ4_append_cf468 fJ5_append_3fe6f fJ5_ensureCapacityInternal_d00df fJ5_isLatin1_aae02 fJ1_canEncode_fc78d
  have e1 := yi_1 (a := hc) (n := 16) h1 (by decide)
  refine Ok.bind (P := fun r => r.1 = hc + 1 ∧ Fb r.2) (Ok.bind (P := fun _ => True) (Ok.grd ?_ (Ok.some trivial)) (fun _ _ => Ok.bind (P := fun _ => True) (Ok.some trivial) (fun _ _ => Ok.bind (P := fun r => r = 1) ?_ (fun r hr => ?_)))) (fun r hr => Ok.some hr)
  · have e2 : (nI 16 >>> ((0 : Int32) &&& 31)) = 16 := by decide
    rw [e2, yi_le]
    have e3 : (hc + 1 - 16).toInt = hc.toInt + 1 - 16 := by
      rw [yi_sub (by rw [e1]; show -2147483648 ≤ hc.toInt + 1 - 16; omega) (by rw [e1]; show hc.toInt + 1 - 16 ≤ 2147483647; omega), e1]
      rfl
    rw [e3]
    show hc.toInt + 1 - 16 ≤ 0
    omega
  · refine Ok.ite (fun h => ?_) (fun h => Ok.some rfl)
    rcases hx with rfl | rfl | rfl | rfl <;> exact absurd h (by decide)
  · rw [hr]
    refine Ok.ite (fun h => absurd h (by decide)) (fun _ => Ok.grd (yi_in h0 h1) (Ok.some ⟨rfl, yi_ch hb hx⟩))
theorem o_J4_toString {hc : Int32} {hf : Nat → Int32} (h5 : hc = 5) (hb : Fb hf) : Ok (fJ4_toString_0e30d hc hf 16) (fun _ => True) := by
  subst h5
  unfold fJ4_toString_0e30d fJ0_init_81219 fJ0_init_db425 fJ5_getValue_6d5f1 fJ4_length_8abf5 fJ5_length_8abf5 fJ5_isLatin1_aae02 fJ7_copyOfRange_39247 fJ7_copyOfRangeByte_39247 fJ7_checkLength_df160
  refine Ok.bind (P := fun _ => True) (Ok.bind (P := fun _ => True) (Ok.bind (P := fun _ => True) (Ok.some trivial) (fun _ _ => Ok.bind (P := fun r => r = 5) (Ok.bind (P := fun r => r = 5) (Ok.some rfl) (fun r hr => Ok.some hr)) (fun r hr => Ok.bind (P := fun _ => True) (Ok.some trivial) (fun _ _ => Ok.bind (P := fun _ => True) ?_ (fun _ _ => Ok.some trivial))))) (fun _ _ => Ok.some trivial)) (fun _ _ => Ok.some trivial)
  subst hr
  exact Ok.ite (fun h => absurd h (by decide)) (fun _ => Ok.bind (P := fun _ => True) (Ok.bind (P := fun _ => True) (Ok.grd (by decide) (Ok.some trivial)) (fun _ _ => Ok.grd (by decide) (Ok.grd ⟨by decide, by decide, by decide, by decide, by decide, fun i _ => hb _⟩ (Ok.some trivial)))) (fun _ _ => Ok.some trivial))
theorem yi_e5 {x : Int32} (h : x.toInt ≤ 5) (c : 5 ≤ x) : x = 5 := Int32.toInt_inj.mp (by
  rw [yi_le] at c
  have c : 5 ≤ x.toInt := c
  show x.toInt = 5
  omega)
theorem o_X6_row {xwb xwk xobl xoy3 xoy4 i1 : Int32} : Ok (fX6_row xwb xwk xobl xoy3 xoy4 i1) (YS (fun e => e = 1) (fun _ => True)) := by
  unfold fX6_row fJ4_init_da8c8 fJ5_init_d00df
  refine Ok.ite (fun _ => Ok.some rfl) (fun _ => Ok.ite (fun _ => ?_) (fun _ => Ok.some rfl))
  refine Ok.bind (P := fun _ => True) (Ok.bind (P := fun _ => True) (Ok.some trivial) (fun _ _ => Ok.some trivial)) (fun _ _ => ?_)
  refine Ok.bind (Ok.ct (P := fun b => b.2.1 = 5 ∧ Fb b.2.2) (fun s => s.2.1 = s.1 ∧ s.1.toInt ≤ 5 ∧ Fb s.2.2) (fun s => s.1) 5 ⟨rfl, by decide, fun _ => (show fits .byte (.int 0) = true by decide)⟩ (show (0 : Int) ≤ Int32.toInt 0 by decide) (by decide) (fun s i z => ?_)) (fun b hb => ?_)
  · obtain ⟨j1, j2, j3⟩ := i
    refine Ok.ite (fun c => ?_) (fun c => ?_)
    · refine Ok.some ⟨?_, j3⟩
      show s.2.1 = 5
      rw [j1, yi_e5 j2 c]
    · refine Ok.bind o_X6_signOf (fun x hx => ?_)
      have lt := yi_nle c (n := 5) (by decide)
      refine Ok.bind (o_J4_append (by rw [j1]; exact z) (by rw [j1]; omega) hx j3) (fun y hy => ?_)
      refine Ok.some ⟨lt, rfl, ?_, ?_, hy.2⟩
      · show y.1 = s.1 + 1
        rw [hy.1, j1]
      · show (s.1 + 1).toInt ≤ 5
        rw [yi_1 lt (by decide)]
        omega
  · exact Ok.bind (o_J4_toString hb.1 hb.2) (fun _ _ => Ok.some trivial)
