theorem e_thrown {sh : Nat} {m : Nat → Int32} {L : Int64} {k : Nat → Nat} {G : Nat → Nat → Nat → Int32} : gX9w_thrown sh m L k G = some (m 0, min sh 2, m, L, k, G) := by
  match sh with
  | 0 => rfl
  | 1 => rfl
  | z + 2 =>
    have e : min (z + 2) 2 = 2 := by omega
    rw [e]
    rfl
/-! ===== the law ===== -/
theorem yR2_0 : yR2 CN0 CT0 0 MN0 MK0 MG0 := by
  refine ⟨by decide, 2, 2, 2, 0, 0, ⟨⟨⟨by decide, by decide⟩, ⟨by decide, by decide⟩, ⟨by decide, by decide⟩, by decide, by decide⟩, ?_, fun i j => Or.inl rfl, fun i j => Or.inl rfl, by decide, by decide, fun z => absurd z (by decide)⟩, ⟨rfl, rfl, rfl, rfl, rfl⟩, ?_, ?_⟩
  · exact ⟨by decide +kernel, by decide +kernel, by decide +kernel, by decide +kernel, by decide +kernel, by decide +kernel, by decide +kernel, by decide +kernel, by decide +kernel⟩
  · intro i j _ _
    obtain ⟨x, hx, hp⟩ := o_X9_lay_0 (i1 := 2) (i2 := 2) (i3 := 2) ⟨by decide, by decide⟩ ⟨by decide, by decide⟩ ⟨by decide, by decide⟩
    have e : fX9_init = some (0, 0, 0, 0, 0, 0, 0, 0, 0, 2, 2, 2, 0, 0, 2, 2, yZ, 2, 2, yZ) := by
      unfold fX9_init
      refine bto (show fX8_init = some () from rfl) ?_
      refine bto hx ?_
      rw [hp]
      rfl
    have e2 := iX9_init e
    show (0 : Int32) = rX9_init.2.2.2.2.2.2.2.2.2.2.2.2.2.2.2.2.1 i j
    rw [e2]
    rfl
  · intro i j _ _
    obtain ⟨x, hx, hp⟩ := o_X9_lay_0 (i1 := 2) (i2 := 2) (i3 := 2) ⟨by decide, by decide⟩ ⟨by decide, by decide⟩ ⟨by decide, by decide⟩
    have e : fX9_init = some (0, 0, 0, 0, 0, 0, 0, 0, 0, 2, 2, 2, 0, 0, 2, 2, yZ, 2, 2, yZ) := by
      unfold fX9_init
      refine bto (show fX8_init = some () from rfl) ?_
      refine bto hx ?_
      rw [hp]
      rfl
    have e2 := iX9_init e
    show (0 : Int32) = rX9_init.2.2.2.2.2.2.2.2.2.2.2.2.2.2.2.2.2.2.2 i j
    rw [e2]
    rfl
theorem yR4_m {W : Nat} {n : Nat → Int32} {t : Nat → Nat → Int32} {sh : Nat} {m : Nat → Int32} {L : Int64} {k : Nat → Nat} {G : Nat → Nat → Nat → Int32} (h : yR4 W n t sh m L k G) : yR4 W n t (min sh 2) m L k G := ⟨yR2_m h.1, yRest_congr ⟨fun _ _ _ => rfl, fun _ _ => rfl⟩ ⟨rfl, fun _ _ _ => rfl, fun _ _ => rfl, rfl, fun _ _ => rfl, fun _ _ => rfl⟩ h.2⟩
theorem yR4_0 : yR4 0 CN0 CT0 0 MN0 ML0 MK0 MG0 := by
  refine ⟨yR2_0, ?_, ?_, fun i j _ _ _ => rfl, by decide +kernel, fun z => absurd z (by decide), fun _ => ⟨rfl, by decide +kernel, fun i j _ _ => rfl, fun i j _ _ => rfl, rfl, rfl, fun _ => rfl, fun z => absurd z (by decide), fun i j z _ => absurd z (Nat.not_lt_zero _), 0, 0, by decide +kernel, ⟨fun _ _ => 0, fun i j _ _ => rfl, rfl⟩, by decide +kernel, Nat.le_refl _, Nat.le_refl _, by decide +kernel⟩⟩
  · intro q hq
    show yBB 0 q = (decide (q < 25) && !decide ((0 : Int32) = 0))
    rw [yBB_0, decide_eq_true rfl, Bool.not_true, Bool.and_false]
  · intro q hq
    show yBB 0 q = (decide (q < 25) && !decide ((0 : Int32) = 0))
    rw [yBB_0, decide_eq_true rfl, Bool.not_true, Bool.and_false]
theorem yBb (b : Bool) : Bo (yb b) := by cases b <;> decide
set_option maxHeartbeats 4000000 in
theorem ylaw_loop {nL : Nat} {xs : Nat → Int32} (hL : nL ≤ 2048) : Ok (wl (S := Int32 × Nat × (Nat → Int32) × Int64 × (Nat → Nat) × (Nat → Nat → Nat → Int32) × (Nat → Int32) × (Nat → Nat → Int32) × Int64 × Nat × Nat) (B := (Int32 × Nat × (Nat → Int32) × Int64 × (Nat → Nat) × (Nat → Nat → Nat → Int32) × (Nat → Int32) × (Nat → Nat → Int32) × Int64 × Nat × Nat) ⊕ Int32) (fun s_58 => (if s_58.2.2.2.2.2.2.2.2.2.1 ≤ 600002 ∧ s_58.2.2.2.2.2.2.2.2.2.2 ≤ 7302232 then (if ((nI nL) - 4) < s_58.1 then some (.inr (.inl (s_58.1, s_58.2.1, s_58.2.2.1, s_58.2.2.2.1, s_58.2.2.2.2.1, s_58.2.2.2.2.2.1, s_58.2.2.2.2.2.2.1, s_58.2.2.2.2.2.2.2.1, s_58.2.2.2.2.2.2.2.2.1, s_58.2.2.2.2.2.2.2.2.2.1, s_58.2.2.2.2.2.2.2.2.2.2))) else (if ¬ (s_58.1 < 0 ∨ nL ≤ s_58.1.toNatClampNeg) then (if ((xs s_58.1.toNatClampNeg) &&& 31) = 0 then (if ¬ ((s_58.1 + 1) < 0 ∨ nL ≤ (s_58.1 + 1).toNatClampNeg) then (if ¬ ((s_58.1 + 2) < 0 ∨ nL ≤ (s_58.1 + 2).toNatClampNeg) then (if ¬ ((s_58.1 + 3) < 0 ∨ nL ≤ (s_58.1 + 3).toNatClampNeg) then ((gL_shape s_58.2.2.2.2.2.2.1 s_58.2.2.2.2.2.2.2.1 s_58.2.2.2.2.2.2.2.2.1 (xs (s_58.1 + 1).toNatClampNeg) (xs (s_58.1 + 2).toNatClampNeg) (xs (s_58.1 + 3).toNatClampNeg)).bind fun x_68 => (if s_58.2.2.2.2.2.2.2.2.2.1 + 1 ≤ 600002 ∧ s_58.2.2.2.2.2.2.2.2.2.2 + 6 ≤ 7302232 then (if ¬ ((s_58.1 + 1) < 0 ∨ nL ≤ (s_58.1 + 1).toNatClampNeg) then (if ¬ ((s_58.1 + 2) < 0 ∨ nL ≤ (s_58.1 + 2).toNatClampNeg) then (if ¬ ((s_58.1 + 3) < 0 ∨ nL ≤ (s_58.1 + 3).toNatClampNeg) then ((gX9w_shape s_58.2.1 s_58.2.2.1 s_58.2.2.2.1 s_58.2.2.2.2.1 s_58.2.2.2.2.2.1 (xs (s_58.1 + 1).toNatClampNeg) (xs (s_58.1 + 2).toNatClampNeg) (xs (s_58.1 + 3).toNatClampNeg)).bind fun x_77 => (if s_58.2.2.2.2.2.2.2.2.2.1 + 1 + 20 ≤ 600002 ∧ s_58.2.2.2.2.2.2.2.2.2.2 + 6 + 180 ≤ 7302232 then ((gX9w_thrown x_77.2.1 x_77.2.2.1 x_77.2.2.2.1 x_77.2.2.2.2.1 x_77.2.2.2.2.2).bind fun x_84 => (if x_84.1 = x_68.1 then (if x_68.1 = 0 then (if (lg_cmp x_68.2.2.2 x_77.1.toInt64) = 0 then some (.inl (s_58.1 + 4, x_84.2.1, x_84.2.2.1, x_84.2.2.2.1, x_84.2.2.2.2.1, x_84.2.2.2.2.2, x_68.2.1, x_68.2.2.1, x_68.2.2.2, s_58.2.2.2.2.2.2.2.2.2.1 + 1 + 20, s_58.2.2.2.2.2.2.2.2.2.2 + 6 + 180)) else some (.inr (.inr 0))) else some (.inl (s_58.1 + 4, x_84.2.1, x_84.2.2.1, x_84.2.2.2.1, x_84.2.2.2.2.1, x_84.2.2.2.2.2, x_68.2.1, x_68.2.2.1, x_68.2.2.2, s_58.2.2.2.2.2.2.2.2.2.1 + 1 + 20, s_58.2.2.2.2.2.2.2.2.2.2 + 6 + 180))) else some (.inr (.inr 0)))) else none)) else none) else none) else none) else none)) else none) else none) else none) else (if ((xs s_58.1.toNatClampNeg) &&& 31) = 1 then (if ¬ ((s_58.1 + 1) < 0 ∨ nL ≤ (s_58.1 + 1).toNatClampNeg) then (if ¬ ((s_58.1 + 2) < 0 ∨ nL ≤ (s_58.1 + 2).toNatClampNeg) then (if ¬ ((s_58.1 + 3) < 0 ∨ nL ≤ (s_58.1 + 3).toNatClampNeg) then ((gL_left s_58.2.2.2.2.2.2.1 s_58.2.2.2.2.2.2.2.1 s_58.2.2.2.2.2.2.2.2.1 (xs (s_58.1 + 1).toNatClampNeg) (xs (s_58.1 + 2).toNatClampNeg) (xs (s_58.1 + 3).toNatClampNeg)).bind fun x_99 => (if s_58.2.2.2.2.2.2.2.2.2.1 + 1 ≤ 600002 ∧ s_58.2.2.2.2.2.2.2.2.2.2 + 6 ≤ 7302232 then (if ¬ ((s_58.1 + 1) < 0 ∨ nL ≤ (s_58.1 + 1).toNatClampNeg) then (if ¬ ((s_58.1 + 2) < 0 ∨ nL ≤ (s_58.1 + 2).toNatClampNeg) then (if ¬ ((s_58.1 + 3) < 0 ∨ nL ≤ (s_58.1 + 3).toNatClampNeg) then ((gX9w_left s_58.2.1 s_58.2.2.1 s_58.2.2.2.1 s_58.2.2.2.2.1 s_58.2.2.2.2.2.1 (xs (s_58.1 + 1).toNatClampNeg) (xs (s_58.1 + 2).toNatClampNeg) (xs (s_58.1 + 3).toNatClampNeg)).bind fun x_108 => ((gX9w_thrown x_108.2.1 x_108.2.2.1 x_108.2.2.2.1 x_108.2.2.2.2.1 x_108.2.2.2.2.2).bind fun x_114 => (if x_114.1 = x_99.1 then (if x_99.1 = 0 then (if (lg_cmp x_99.2.2.2 x_108.1.toInt64) = 0 then some (.inl (s_58.1 + 4, x_114.2.1, x_114.2.2.1, x_114.2.2.2.1, x_114.2.2.2.2.1, x_114.2.2.2.2.2, x_99.2.1, x_99.2.2.1, x_99.2.2.2, s_58.2.2.2.2.2.2.2.2.2.1 + 1, s_58.2.2.2.2.2.2.2.2.2.2 + 6)) else some (.inr (.inr 0))) else some (.inl (s_58.1 + 4, x_114.2.1, x_114.2.2.1, x_114.2.2.2.1, x_114.2.2.2.2.1, x_114.2.2.2.2.2, x_99.2.1, x_99.2.2.1, x_99.2.2.2, s_58.2.2.2.2.2.2.2.2.2.1 + 1, s_58.2.2.2.2.2.2.2.2.2.2 + 6))) else some (.inr (.inr 0))))) else none) else none) else none) else none)) else none) else none) else none) else (if ((xs s_58.1.toNatClampNeg) &&& 31) = 2 then (if ¬ ((s_58.1 + 1) < 0 ∨ nL ≤ (s_58.1 + 1).toNatClampNeg) then (if ¬ ((s_58.1 + 2) < 0 ∨ nL ≤ (s_58.1 + 2).toNatClampNeg) then (if ¬ ((s_58.1 + 3) < 0 ∨ nL ≤ (s_58.1 + 3).toNatClampNeg) then ((gL_top s_58.2.2.2.2.2.2.1 s_58.2.2.2.2.2.2.2.1 s_58.2.2.2.2.2.2.2.2.1 (xs (s_58.1 + 1).toNatClampNeg) (xs (s_58.1 + 2).toNatClampNeg) (xs (s_58.1 + 3).toNatClampNeg)).bind fun x_129 => (if s_58.2.2.2.2.2.2.2.2.2.1 + 1 ≤ 600002 ∧ s_58.2.2.2.2.2.2.2.2.2.2 + 6 ≤ 7302232 then (if ¬ ((s_58.1 + 1) < 0 ∨ nL ≤ (s_58.1 + 1).toNatClampNeg) then (if ¬ ((s_58.1 + 2) < 0 ∨ nL ≤ (s_58.1 + 2).toNatClampNeg) then (if ¬ ((s_58.1 + 3) < 0 ∨ nL ≤ (s_58.1 + 3).toNatClampNeg) then ((gX9w_top s_58.2.1 s_58.2.2.1 s_58.2.2.2.1 s_58.2.2.2.2.1 s_58.2.2.2.2.2.1 (xs (s_58.1 + 1).toNatClampNeg) (xs (s_58.1 + 2).toNatClampNeg) (xs (s_58.1 + 3).toNatClampNeg)).bind fun x_138 => ((gX9w_thrown x_138.2.1 x_138.2.2.1 x_138.2.2.2.1 x_138.2.2.2.2.1 x_138.2.2.2.2.2).bind fun x_144 => (if x_144.1 = x_129.1 then (if x_129.1 = 0 then (if (lg_cmp x_129.2.2.2 x_138.1.toInt64) = 0 then some (.inl (s_58.1 + 4, x_144.2.1, x_144.2.2.1, x_144.2.2.2.1, x_144.2.2.2.2.1, x_144.2.2.2.2.2, x_129.2.1, x_129.2.2.1, x_129.2.2.2, s_58.2.2.2.2.2.2.2.2.2.1 + 1, s_58.2.2.2.2.2.2.2.2.2.2 + 6)) else some (.inr (.inr 0))) else some (.inl (s_58.1 + 4, x_144.2.1, x_144.2.2.1, x_144.2.2.2.1, x_144.2.2.2.2.1, x_144.2.2.2.2.2, x_129.2.1, x_129.2.2.1, x_129.2.2.2, s_58.2.2.2.2.2.2.2.2.2.1 + 1, s_58.2.2.2.2.2.2.2.2.2.2 + 6))) else some (.inr (.inr 0))))) else none) else none) else none) else none)) else none) else none) else none) else (if ((xs s_58.1.toNatClampNeg) &&& 31) = 3 then (if ¬ ((s_58.1 + 1) < 0 ∨ nL ≤ (s_58.1 + 1).toNatClampNeg) then ((gL_kind s_58.2.2.2.2.2.2.1 s_58.2.2.2.2.2.2.2.1 s_58.2.2.2.2.2.2.2.2.1 (xs (s_58.1 + 1).toNatClampNeg)).bind fun x_157 => (if s_58.2.2.2.2.2.2.2.2.2.1 + 1 ≤ 600002 ∧ s_58.2.2.2.2.2.2.2.2.2.2 + 6 ≤ 7302232 then (if ¬ ((s_58.1 + 1) < 0 ∨ nL ≤ (s_58.1 + 1).toNatClampNeg) then ((gX9w_kind s_58.2.1 s_58.2.2.1 s_58.2.2.2.1 s_58.2.2.2.2.1 s_58.2.2.2.2.2.1 (xs (s_58.1 + 1).toNatClampNeg)).bind fun x_164 => ((gX9w_thrown x_164.2.1 x_164.2.2.1 x_164.2.2.2.1 x_164.2.2.2.2.1 x_164.2.2.2.2.2).bind fun x_170 => (if x_170.1 = x_157.1 then (if x_157.1 = 0 then (if (lg_cmp x_157.2.2.2 x_164.1.toInt64) = 0 then some (.inl (s_58.1 + 4, x_170.2.1, x_170.2.2.1, x_170.2.2.2.1, x_170.2.2.2.2.1, x_170.2.2.2.2.2, x_157.2.1, x_157.2.2.1, x_157.2.2.2, s_58.2.2.2.2.2.2.2.2.2.1 + 1, s_58.2.2.2.2.2.2.2.2.2.2 + 6)) else some (.inr (.inr 0))) else some (.inl (s_58.1 + 4, x_170.2.1, x_170.2.2.1, x_170.2.2.2.1, x_170.2.2.2.2.1, x_170.2.2.2.2.2, x_157.2.1, x_157.2.2.1, x_157.2.2.2, s_58.2.2.2.2.2.2.2.2.2.1 + 1, s_58.2.2.2.2.2.2.2.2.2.2 + 6))) else some (.inr (.inr 0))))) else none) else none)) else none) else (if ((xs s_58.1.toNatClampNeg) &&& 31) = 4 then (if ¬ ((s_58.1 + 1) < 0 ∨ nL ≤ (s_58.1 + 1).toNatClampNeg) then ((((if (xs (s_58.1 + 1).toNatClampNeg) = 0 then some 0 else some 1) : Option (Int32))).bind fun r_184 => ((gL_checked s_58.2.2.2.2.2.2.1 s_58.2.2.2.2.2.2.2.1 s_58.2.2.2.2.2.2.2.2.1 r_184).bind fun x_185 => (if s_58.2.2.2.2.2.2.2.2.2.1 + 1 ≤ 600002 ∧ s_58.2.2.2.2.2.2.2.2.2.2 + 6 ≤ 7302232 then (if ¬ ((s_58.1 + 1) < 0 ∨ nL ≤ (s_58.1 + 1).toNatClampNeg) then ((((if (xs (s_58.1 + 1).toNatClampNeg) = 0 then some 0 else some 1) : Option (Int32))).bind fun r_193 => ((gX9w_checked s_58.2.1 s_58.2.2.1 s_58.2.2.2.1 s_58.2.2.2.2.1 s_58.2.2.2.2.2.1 r_193).bind fun x_194 => ((gX9w_thrown x_194.2.1 x_194.2.2.1 x_194.2.2.2.1 x_194.2.2.2.2.1 x_194.2.2.2.2.2).bind fun x_200 => (if x_200.1 = x_185.1 then (if x_185.1 = 0 then ((((if x_194.1 = 0 then some 0 else some 1) : Option (Int64))).bind fun r_209 => (if (lg_cmp x_185.2.2.2 r_209) = 0 then some (.inl (s_58.1 + 4, x_200.2.1, x_200.2.2.1, x_200.2.2.2.1, x_200.2.2.2.2.1, x_200.2.2.2.2.2, x_185.2.1, x_185.2.2.1, x_185.2.2.2, s_58.2.2.2.2.2.2.2.2.2.1 + 1, s_58.2.2.2.2.2.2.2.2.2.2 + 6)) else some (.inr (.inr 0)))) else some (.inl (s_58.1 + 4, x_200.2.1, x_200.2.2.1, x_200.2.2.2.1, x_200.2.2.2.2.1, x_200.2.2.2.2.2, x_185.2.1, x_185.2.2.1, x_185.2.2.2, s_58.2.2.2.2.2.2.2.2.2.1 + 1, s_58.2.2.2.2.2.2.2.2.2.2 + 6))) else some (.inr (.inr 0)))))) else none) else none))) else none) else (if ((xs s_58.1.toNatClampNeg) &&& 31) = 5 then (if ¬ ((s_58.1 + 1) < 0 ∨ nL ≤ (s_58.1 + 1).toNatClampNeg) then (if ¬ ((s_58.1 + 2) < 0 ∨ nL ≤ (s_58.1 + 2).toNatClampNeg) then (if ¬ ((s_58.1 + 3) < 0 ∨ nL ≤ (s_58.1 + 3).toNatClampNeg) then ((((if (xs (s_58.1 + 3).toNatClampNeg) = 0 then some 0 else some 1) : Option (Int32))).bind fun r_227 => ((gL_broken s_58.2.2.2.2.2.2.1 s_58.2.2.2.2.2.2.2.1 s_58.2.2.2.2.2.2.2.2.1 (xs (s_58.1 + 1).toNatClampNeg) (xs (s_58.1 + 2).toNatClampNeg) r_227).bind fun x_228 => (if s_58.2.2.2.2.2.2.2.2.2.1 + 1 ≤ 600002 ∧ s_58.2.2.2.2.2.2.2.2.2.2 + 6 ≤ 7302232 then (if ¬ ((s_58.1 + 1) < 0 ∨ nL ≤ (s_58.1 + 1).toNatClampNeg) then (if ¬ ((s_58.1 + 2) < 0 ∨ nL ≤ (s_58.1 + 2).toNatClampNeg) then (if ¬ ((s_58.1 + 3) < 0 ∨ nL ≤ (s_58.1 + 3).toNatClampNeg) then ((((if (xs (s_58.1 + 3).toNatClampNeg) = 0 then some 0 else some 1) : Option (Int32))).bind fun r_238 => ((gX9w_broken s_58.2.1 s_58.2.2.1 s_58.2.2.2.1 s_58.2.2.2.2.1 s_58.2.2.2.2.2.1 (xs (s_58.1 + 1).toNatClampNeg) (xs (s_58.1 + 2).toNatClampNeg) r_238).bind fun x_239 => ((gX9w_thrown x_239.2.1 x_239.2.2.1 x_239.2.2.2.1 x_239.2.2.2.2.1 x_239.2.2.2.2.2).bind fun x_245 => (if x_245.1 = x_228.1 then (if x_228.1 = 0 then (if (lg_cmp x_228.2.2.2 x_239.1.toInt64) = 0 then some (.inl (s_58.1 + 4, x_245.2.1, x_245.2.2.1, x_245.2.2.2.1, x_245.2.2.2.2.1, x_245.2.2.2.2.2, x_228.2.1, x_228.2.2.1, x_228.2.2.2, s_58.2.2.2.2.2.2.2.2.2.1 + 1, s_58.2.2.2.2.2.2.2.2.2.2 + 6)) else some (.inr (.inr 0))) else some (.inl (s_58.1 + 4, x_245.2.1, x_245.2.2.1, x_245.2.2.2.1, x_245.2.2.2.2.1, x_245.2.2.2.2.2, x_228.2.1, x_228.2.2.1, x_228.2.2.2, s_58.2.2.2.2.2.2.2.2.2.1 + 1, s_58.2.2.2.2.2.2.2.2.2.2 + 6))) else some (.inr (.inr 0)))))) else none) else none) else none) else none))) else none) else none) else none) else (if ((xs s_58.1.toNatClampNeg) &&& 31) = 6 then ((gL_test s_58.2.2.2.2.2.2.1 s_58.2.2.2.2.2.2.2.1 s_58.2.2.2.2.2.2.2.2.1).bind fun x_263 => (if s_58.2.2.2.2.2.2.2.2.2.1 + 1 ≤ 600002 ∧ s_58.2.2.2.2.2.2.2.2.2.2 + 6 ≤ 7302232 then ((gX9w_test s_58.2.1 s_58.2.2.1 s_58.2.2.2.1 s_58.2.2.2.2.1 s_58.2.2.2.2.2.1).bind fun x_269 => (if s_58.2.2.2.2.2.2.2.2.2.1 + 1 + 10 ≤ 600002 ∧ s_58.2.2.2.2.2.2.2.2.2.2 + 6 + 50 ≤ 7302232 then ((gX9w_thrown x_269.2.1 x_269.2.2.1 x_269.2.2.2.1 x_269.2.2.2.2.1 x_269.2.2.2.2.2).bind fun x_276 => (if x_276.1 = x_263.1 then (if x_263.1 = 0 then (if (lg_cmp x_263.2.2.2 x_269.1.toInt64) = 0 then some (.inl (s_58.1 + 4, x_276.2.1, x_276.2.2.1, x_276.2.2.2.1, x_276.2.2.2.2.1, x_276.2.2.2.2.2, x_263.2.1, x_263.2.2.1, x_263.2.2.2, s_58.2.2.2.2.2.2.2.2.2.1 + 1 + 10, s_58.2.2.2.2.2.2.2.2.2.2 + 6 + 50)) else some (.inr (.inr 0))) else some (.inl (s_58.1 + 4, x_276.2.1, x_276.2.2.1, x_276.2.2.2.1, x_276.2.2.2.2.1, x_276.2.2.2.2.2, x_263.2.1, x_263.2.2.1, x_263.2.2.2, s_58.2.2.2.2.2.2.2.2.2.1 + 1 + 10, s_58.2.2.2.2.2.2.2.2.2.2 + 6 + 50))) else some (.inr (.inr 0)))) else none)) else none)) else (if ((xs s_58.1.toNatClampNeg) &&& 31) = 7 then ((gL_start s_58.2.2.2.2.2.2.1 s_58.2.2.2.2.2.2.2.1 s_58.2.2.2.2.2.2.2.2.1).bind fun x_288 => (if s_58.2.2.2.2.2.2.2.2.2.1 + 1 ≤ 600002 ∧ s_58.2.2.2.2.2.2.2.2.2.2 + 6 ≤ 7302232 then ((gX9w_begin s_58.2.1 s_58.2.2.1 s_58.2.2.2.1 s_58.2.2.2.2.1 s_58.2.2.2.2.2.1).bind fun x_294 => (if s_58.2.2.2.2.2.2.2.2.2.1 + 1 + 100 ≤ 600002 ∧ s_58.2.2.2.2.2.2.2.2.2.2 + 6 + 500 ≤ 7302232 then ((gX9w_thrown x_294.2.1 x_294.2.2.1 x_294.2.2.2.1 x_294.2.2.2.2.1 x_294.2.2.2.2.2).bind fun x_301 => (if x_301.1 = x_288.1 then (if x_288.1 = 0 then (if (lg_cmp x_288.2.2.2 x_294.1.toInt64) = 0 then some (.inl (s_58.1 + 4, x_301.2.1, x_301.2.2.1, x_301.2.2.2.1, x_301.2.2.2.2.1, x_301.2.2.2.2.2, x_288.2.1, x_288.2.2.1, x_288.2.2.2, s_58.2.2.2.2.2.2.2.2.2.1 + 1 + 100, s_58.2.2.2.2.2.2.2.2.2.2 + 6 + 500)) else some (.inr (.inr 0))) else some (.inl (s_58.1 + 4, x_301.2.1, x_301.2.2.1, x_301.2.2.2.1, x_301.2.2.2.2.1, x_301.2.2.2.2.2, x_288.2.1, x_288.2.2.1, x_288.2.2.2, s_58.2.2.2.2.2.2.2.2.2.1 + 1 + 100, s_58.2.2.2.2.2.2.2.2.2.2 + 6 + 500))) else some (.inr (.inr 0)))) else none)) else none)) else (if ((xs s_58.1.toNatClampNeg) &&& 31) = 8 then (if ¬ ((s_58.1 + 1) < 0 ∨ nL ≤ (s_58.1 + 1).toNatClampNeg) then ((gL_beat s_58.2.2.2.2.2.2.1 s_58.2.2.2.2.2.2.2.1 s_58.2.2.2.2.2.2.2.2.1 (xs (s_58.1 + 1).toNatClampNeg)).bind fun x_314 => (if s_58.2.2.2.2.2.2.2.2.2.1 + 1 ≤ 600002 ∧ s_58.2.2.2.2.2.2.2.2.2.2 + 6 ≤ 7302232 then (if ¬ ((s_58.1 + 1) < 0 ∨ nL ≤ (s_58.1 + 1).toNatClampNeg) then ((gX9w_beat s_58.2.1 s_58.2.2.1 s_58.2.2.2.1 s_58.2.2.2.2.1 s_58.2.2.2.2.2.1 (xs (s_58.1 + 1).toNatClampNeg)).bind fun x_321 => (if s_58.2.2.2.2.2.2.2.2.2.1 + 1 + 200 ≤ 600002 ∧ s_58.2.2.2.2.2.2.2.2.2.2 + 6 + 1800 ≤ 7302232 then ((gX9w_thrown x_321.2.1 x_321.2.2.1 x_321.2.2.2.1 x_321.2.2.2.2.1 x_321.2.2.2.2.2).bind fun x_328 => (if x_328.1 = x_314.1 then (if x_314.1 = 0 then (if (lg_cmp x_314.2.2.2 x_321.1.toInt64) = 0 then some (.inl (s_58.1 + 4, x_328.2.1, x_328.2.2.1, x_328.2.2.2.1, x_328.2.2.2.2.1, x_328.2.2.2.2.2, x_314.2.1, x_314.2.2.1, x_314.2.2.2, s_58.2.2.2.2.2.2.2.2.2.1 + 1 + 200, s_58.2.2.2.2.2.2.2.2.2.2 + 6 + 1800)) else some (.inr (.inr 0))) else some (.inl (s_58.1 + 4, x_328.2.1, x_328.2.2.1, x_328.2.2.2.1, x_328.2.2.2.2.1, x_328.2.2.2.2.2, x_314.2.1, x_314.2.2.1, x_314.2.2.2, s_58.2.2.2.2.2.2.2.2.2.1 + 1 + 200, s_58.2.2.2.2.2.2.2.2.2.2 + 6 + 1800))) else some (.inr (.inr 0)))) else none)) else none) else none)) else none) else (if ((xs s_58.1.toNatClampNeg) &&& 31) = 9 then (if ¬ ((s_58.1 + 1) < 0 ∨ nL ≤ (s_58.1 + 1).toNatClampNeg) then (if ¬ ((s_58.1 + 2) < 0 ∨ nL ≤ (s_58.1 + 2).toNatClampNeg) then (if ¬ ((s_58.1 + 3) < 0 ∨ nL ≤ (s_58.1 + 3).toNatClampNeg) then ((gL_bend s_58.2.2.2.2.2.2.1 s_58.2.2.2.2.2.2.2.1 s_58.2.2.2.2.2.2.2.2.1 (xs (s_58.1 + 1).toNatClampNeg) (xs (s_58.1 + 2).toNatClampNeg) (xs (s_58.1 + 3).toNatClampNeg)).bind fun x_343 => (if s_58.2.2.2.2.2.2.2.2.2.1 + 1 ≤ 600002 ∧ s_58.2.2.2.2.2.2.2.2.2.2 + 6 ≤ 7302232 then (if ¬ ((s_58.1 + 1) < 0 ∨ nL ≤ (s_58.1 + 1).toNatClampNeg) then (if ¬ ((s_58.1 + 2) < 0 ∨ nL ≤ (s_58.1 + 2).toNatClampNeg) then (if ¬ ((s_58.1 + 3) < 0 ∨ nL ≤ (s_58.1 + 3).toNatClampNeg) then ((gX9w_bend s_58.2.1 s_58.2.2.1 s_58.2.2.2.1 s_58.2.2.2.2.1 s_58.2.2.2.2.2.1 (xs (s_58.1 + 1).toNatClampNeg) (xs (s_58.1 + 2).toNatClampNeg) (xs (s_58.1 + 3).toNatClampNeg)).bind fun x_352 => ((gX9w_thrown x_352.2.1 x_352.2.2.1 x_352.2.2.2.1 x_352.2.2.2.2.1 x_352.2.2.2.2.2).bind fun x_358 => (if x_358.1 = x_343.1 then (if x_343.1 = 0 then (if (lg_cmp x_343.2.2.2 x_352.1.toInt64) = 0 then some (.inl (s_58.1 + 4, x_358.2.1, x_358.2.2.1, x_358.2.2.2.1, x_358.2.2.2.2.1, x_358.2.2.2.2.2, x_343.2.1, x_343.2.2.1, x_343.2.2.2, s_58.2.2.2.2.2.2.2.2.2.1 + 1, s_58.2.2.2.2.2.2.2.2.2.2 + 6)) else some (.inr (.inr 0))) else some (.inl (s_58.1 + 4, x_358.2.1, x_358.2.2.1, x_358.2.2.2.1, x_358.2.2.2.2.1, x_358.2.2.2.2.2, x_343.2.1, x_343.2.2.1, x_343.2.2.2, s_58.2.2.2.2.2.2.2.2.2.1 + 1, s_58.2.2.2.2.2.2.2.2.2.2 + 6))) else some (.inr (.inr 0))))) else none) else none) else none) else none)) else none) else none) else none) else (if ((xs s_58.1.toNatClampNeg) &&& 31) = 10 then ((gL_check s_58.2.2.2.2.2.2.1 s_58.2.2.2.2.2.2.2.1 s_58.2.2.2.2.2.2.2.2.1).bind fun x_370 => (if s_58.2.2.2.2.2.2.2.2.2.1 + 1 ≤ 600002 ∧ s_58.2.2.2.2.2.2.2.2.2.2 + 6 ≤ 7302232 then ((gX9w_check s_58.2.1 s_58.2.2.1 s_58.2.2.2.1 s_58.2.2.2.2.1 s_58.2.2.2.2.2.1).bind fun x_376 => ((gX9w_thrown x_376.2.1 x_376.2.2.1 x_376.2.2.2.1 x_376.2.2.2.2.1 x_376.2.2.2.2.2).bind fun x_382 => (if x_382.1 = x_370.1 then (if x_370.1 = 0 then (if (lg_cmp x_370.2.2.2 x_376.1.toInt64) = 0 then some (.inl (s_58.1 + 4, x_382.2.1, x_382.2.2.1, x_382.2.2.2.1, x_382.2.2.2.2.1, x_382.2.2.2.2.2, x_370.2.1, x_370.2.2.1, x_370.2.2.2, s_58.2.2.2.2.2.2.2.2.2.1 + 1, s_58.2.2.2.2.2.2.2.2.2.2 + 6)) else some (.inr (.inr 0))) else some (.inl (s_58.1 + 4, x_382.2.1, x_382.2.2.1, x_382.2.2.2.1, x_382.2.2.2.2.1, x_382.2.2.2.2.2, x_370.2.1, x_370.2.2.1, x_370.2.2.2, s_58.2.2.2.2.2.2.2.2.2.1 + 1, s_58.2.2.2.2.2.2.2.2.2.2 + 6))) else some (.inr (.inr 0))))) else none)) else (if ((xs s_58.1.toNatClampNeg) &&& 31) = 11 then (if ¬ ((s_58.1 + 1) < 0 ∨ nL ≤ (s_58.1 + 1).toNatClampNeg) then ((gL_mesh s_58.2.2.2.2.2.2.1 s_58.2.2.2.2.2.2.2.1 s_58.2.2.2.2.2.2.2.2.1 (xs (s_58.1 + 1).toNatClampNeg)).bind fun x_395 => (if s_58.2.2.2.2.2.2.2.2.2.1 + 1 ≤ 600002 ∧ s_58.2.2.2.2.2.2.2.2.2.2 + 6 ≤ 7302232 then (if ¬ ((s_58.1 + 1) < 0 ∨ nL ≤ (s_58.1 + 1).toNatClampNeg) then ((gX9w_mesh s_58.2.1 s_58.2.2.1 s_58.2.2.2.1 s_58.2.2.2.2.1 s_58.2.2.2.2.2.1 (xs (s_58.1 + 1).toNatClampNeg)).bind fun x_402 => ((gX9w_thrown x_402.2.1 x_402.2.2.1 x_402.2.2.2.1 x_402.2.2.2.2.1 x_402.2.2.2.2.2).bind fun x_408 => (if x_408.1 = x_395.1 then (if x_395.1 = 0 then (if (lg_cmp x_395.2.2.2 x_402.1.toInt64) = 0 then some (.inl (s_58.1 + 4, x_408.2.1, x_408.2.2.1, x_408.2.2.2.1, x_408.2.2.2.2.1, x_408.2.2.2.2.2, x_395.2.1, x_395.2.2.1, x_395.2.2.2, s_58.2.2.2.2.2.2.2.2.2.1 + 1, s_58.2.2.2.2.2.2.2.2.2.2 + 6)) else some (.inr (.inr 0))) else some (.inl (s_58.1 + 4, x_408.2.1, x_408.2.2.1, x_408.2.2.2.1, x_408.2.2.2.2.1, x_408.2.2.2.2.2, x_395.2.1, x_395.2.2.1, x_395.2.2.2, s_58.2.2.2.2.2.2.2.2.2.1 + 1, s_58.2.2.2.2.2.2.2.2.2.2 + 6))) else some (.inr (.inr 0))))) else none) else none)) else none) else (if ((xs s_58.1.toNatClampNeg) &&& 31) = 12 then (if ¬ ((s_58.1 + 1) < 0 ∨ nL ≤ (s_58.1 + 1).toNatClampNeg) then (if ¬ ((s_58.1 + 2) < 0 ∨ nL ≤ (s_58.1 + 2).toNatClampNeg) then (if ¬ ((s_58.1 + 3) < 0 ∨ nL ≤ (s_58.1 + 3).toNatClampNeg) then ((gL_ofCell s_58.2.2.2.2.2.2.1 s_58.2.2.2.2.2.2.2.1 s_58.2.2.2.2.2.2.2.2.1 (xs (s_58.1 + 1).toNatClampNeg) (xs (s_58.1 + 2).toNatClampNeg) (xs (s_58.1 + 3).toNatClampNeg)).bind fun x_423 => (if s_58.2.2.2.2.2.2.2.2.2.1 + 1 ≤ 600002 ∧ s_58.2.2.2.2.2.2.2.2.2.2 + 6 ≤ 7302232 then (if ¬ ((s_58.1 + 1) < 0 ∨ nL ≤ (s_58.1 + 1).toNatClampNeg) then (if ¬ ((s_58.1 + 2) < 0 ∨ nL ≤ (s_58.1 + 2).toNatClampNeg) then (if ¬ ((s_58.1 + 3) < 0 ∨ nL ≤ (s_58.1 + 3).toNatClampNeg) then ((gX9w_ofCell s_58.2.1 s_58.2.2.1 s_58.2.2.2.1 s_58.2.2.2.2.1 s_58.2.2.2.2.2.1 (xs (s_58.1 + 1).toNatClampNeg) (xs (s_58.1 + 2).toNatClampNeg) (xs (s_58.1 + 3).toNatClampNeg)).bind fun x_432 => ((gX9w_thrown x_432.2.1 x_432.2.2.1 x_432.2.2.2.1 x_432.2.2.2.2.1 x_432.2.2.2.2.2).bind fun x_438 => (if x_438.1 = x_423.1 then (if x_423.1 = 0 then (if (lg_cmp x_423.2.2.2 x_432.1.toInt64) = 0 then some (.inl (s_58.1 + 4, x_438.2.1, x_438.2.2.1, x_438.2.2.2.1, x_438.2.2.2.2.1, x_438.2.2.2.2.2, x_423.2.1, x_423.2.2.1, x_423.2.2.2, s_58.2.2.2.2.2.2.2.2.2.1 + 1, s_58.2.2.2.2.2.2.2.2.2.2 + 6)) else some (.inr (.inr 0))) else some (.inl (s_58.1 + 4, x_438.2.1, x_438.2.2.1, x_438.2.2.2.1, x_438.2.2.2.2.1, x_438.2.2.2.2.2, x_423.2.1, x_423.2.2.1, x_423.2.2.2, s_58.2.2.2.2.2.2.2.2.2.1 + 1, s_58.2.2.2.2.2.2.2.2.2.2 + 6))) else some (.inr (.inr 0))))) else none) else none) else none) else none)) else none) else none) else none) else (if ((xs s_58.1.toNatClampNeg) &&& 31) = 13 then (if ¬ ((s_58.1 + 1) < 0 ∨ nL ≤ (s_58.1 + 1).toNatClampNeg) then (if ¬ ((s_58.1 + 2) < 0 ∨ nL ≤ (s_58.1 + 2).toNatClampNeg) then ((gL_result s_58.2.2.2.2.2.2.1 s_58.2.2.2.2.2.2.2.1 s_58.2.2.2.2.2.2.2.2.1 (xs (s_58.1 + 1).toNatClampNeg) (xs (s_58.1 + 2).toNatClampNeg)).bind fun x_452 => (if s_58.2.2.2.2.2.2.2.2.2.1 + 1 ≤ 600002 ∧ s_58.2.2.2.2.2.2.2.2.2.2 + 6 ≤ 7302232 then (if ¬ ((s_58.1 + 1) < 0 ∨ nL ≤ (s_58.1 + 1).toNatClampNeg) then (if ¬ ((s_58.1 + 2) < 0 ∨ nL ≤ (s_58.1 + 2).toNatClampNeg) then ((gX9w_result s_58.2.1 s_58.2.2.1 s_58.2.2.2.1 s_58.2.2.2.2.1 s_58.2.2.2.2.2.1 (xs (s_58.1 + 1).toNatClampNeg) (xs (s_58.1 + 2).toNatClampNeg)).bind fun x_460 => ((gX9w_thrown x_460.2.1 x_460.2.2.1 x_460.2.2.2.1 x_460.2.2.2.2.1 x_460.2.2.2.2.2).bind fun x_466 => (if x_466.1 = x_452.1 then (if x_452.1 = 0 then (if (lg_cmp x_452.2.2.2 x_460.1.toInt64) = 0 then some (.inl (s_58.1 + 4, x_466.2.1, x_466.2.2.1, x_466.2.2.2.1, x_466.2.2.2.2.1, x_466.2.2.2.2.2, x_452.2.1, x_452.2.2.1, x_452.2.2.2, s_58.2.2.2.2.2.2.2.2.2.1 + 1, s_58.2.2.2.2.2.2.2.2.2.2 + 6)) else some (.inr (.inr 0))) else some (.inl (s_58.1 + 4, x_466.2.1, x_466.2.2.1, x_466.2.2.2.1, x_466.2.2.2.2.1, x_466.2.2.2.2.2, x_452.2.1, x_452.2.2.1, x_452.2.2.2, s_58.2.2.2.2.2.2.2.2.2.1 + 1, s_58.2.2.2.2.2.2.2.2.2.2 + 6))) else some (.inr (.inr 0))))) else none) else none) else none)) else none) else none) else (if ((xs s_58.1.toNatClampNeg) &&& 31) = 14 then (if ¬ ((s_58.1 + 1) < 0 ∨ nL ≤ (s_58.1 + 1).toNatClampNeg) then (if ¬ ((s_58.1 + 2) < 0 ∨ nL ≤ (s_58.1 + 2).toNatClampNeg) then ((gL_plain s_58.2.2.2.2.2.2.1 s_58.2.2.2.2.2.2.2.1 s_58.2.2.2.2.2.2.2.2.1 (xs (s_58.1 + 1).toNatClampNeg) (xs (s_58.1 + 2).toNatClampNeg)).bind fun x_480 => (if s_58.2.2.2.2.2.2.2.2.2.1 + 1 ≤ 600002 ∧ s_58.2.2.2.2.2.2.2.2.2.2 + 6 ≤ 7302232 then (if ¬ ((s_58.1 + 1) < 0 ∨ nL ≤ (s_58.1 + 1).toNatClampNeg) then (if ¬ ((s_58.1 + 2) < 0 ∨ nL ≤ (s_58.1 + 2).toNatClampNeg) then ((gX9w_plain s_58.2.1 s_58.2.2.1 s_58.2.2.2.1 s_58.2.2.2.2.1 s_58.2.2.2.2.2.1 (xs (s_58.1 + 1).toNatClampNeg) (xs (s_58.1 + 2).toNatClampNeg)).bind fun x_488 => ((gX9w_thrown x_488.2.1 x_488.2.2.1 x_488.2.2.2.1 x_488.2.2.2.2.1 x_488.2.2.2.2.2).bind fun x_494 => (if x_494.1 = x_480.1 then (if x_480.1 = 0 then (if (lg_cmp x_480.2.2.2 x_488.1.toInt64) = 0 then some (.inl (s_58.1 + 4, x_494.2.1, x_494.2.2.1, x_494.2.2.2.1, x_494.2.2.2.2.1, x_494.2.2.2.2.2, x_480.2.1, x_480.2.2.1, x_480.2.2.2, s_58.2.2.2.2.2.2.2.2.2.1 + 1, s_58.2.2.2.2.2.2.2.2.2.2 + 6)) else some (.inr (.inr 0))) else some (.inl (s_58.1 + 4, x_494.2.1, x_494.2.2.1, x_494.2.2.2.1, x_494.2.2.2.2.1, x_494.2.2.2.2.2, x_480.2.1, x_480.2.2.1, x_480.2.2.2, s_58.2.2.2.2.2.2.2.2.2.1 + 1, s_58.2.2.2.2.2.2.2.2.2.2 + 6))) else some (.inr (.inr 0))))) else none) else none) else none)) else none) else none) else (if ((xs s_58.1.toNatClampNeg) &&& 31) = 15 then (if ¬ ((s_58.1 + 1) < 0 ∨ nL ≤ (s_58.1 + 1).toNatClampNeg) then ((gL_row s_58.2.2.2.2.2.2.1 s_58.2.2.2.2.2.2.2.1 s_58.2.2.2.2.2.2.2.2.1 (xs (s_58.1 + 1).toNatClampNeg)).bind fun x_507 => (if s_58.2.2.2.2.2.2.2.2.2.1 + 4 ≤ 600002 ∧ s_58.2.2.2.2.2.2.2.2.2.2 + 40 ≤ 7302232 then ybr x_507 (fun w_515 => (if ¬ ((s_58.1 + 1) < 0 ∨ nL ≤ (s_58.1 + 1).toNatClampNeg) then ((gX9w_row s_58.2.1 s_58.2.2.1 s_58.2.2.2.1 s_58.2.2.2.2.1 s_58.2.2.2.2.2.1 (xs (s_58.1 + 1).toNatClampNeg)).bind fun x_517 => (if s_58.2.2.2.2.2.2.2.2.2.1 + 4 + 4 ≤ 600002 ∧ s_58.2.2.2.2.2.2.2.2.2.2 + 40 + 40 ≤ 7302232 then ybr x_517 (fun w_529 => ((gX9w_thrown w_529.1 w_529.2.1 w_529.2.2.1 w_529.2.2.2.1 w_529.2.2.2.2.1).bind fun x_530 => (if x_530.1 = w_515.1 then (if w_515.1 = 0 then ((fJ0_equals_9ea2d w_515.2.2.2.2.2 w_515.2.2.2.2.1 w_529.2.2.2.2.2.2 w_529.2.2.2.2.2.1).bind fun x_538 => (if x_538 = 0 then some (.inr (.inr 0)) else some (.inl (s_58.1 + 4, x_530.2.1, x_530.2.2.1, x_530.2.2.2.1, x_530.2.2.2.2.1, x_530.2.2.2.2.2, w_515.2.1, w_515.2.2.1, w_515.2.2.2.1, s_58.2.2.2.2.2.2.2.2.2.1 + 4 + 4, s_58.2.2.2.2.2.2.2.2.2.2 + 40 + 40)))) else some (.inl (s_58.1 + 4, x_530.2.1, x_530.2.2.1, x_530.2.2.2.1, x_530.2.2.2.2.1, x_530.2.2.2.2.2, w_515.2.1, w_515.2.2.1, w_515.2.2.2.1, s_58.2.2.2.2.2.2.2.2.2.1 + 4 + 4, s_58.2.2.2.2.2.2.2.2.2.2 + 40 + 40))) else some (.inr (.inr 0))))) (fun w_529 => ((gX9w_thrown w_529.1 w_529.2.1 w_529.2.2.1 w_529.2.2.2.1 w_529.2.2.2.2).bind fun x_545 => (if x_545.1 = w_515.1 then (if w_515.1 = 0 then none else some (.inl (s_58.1 + 4, x_545.2.1, x_545.2.2.1, x_545.2.2.2.1, x_545.2.2.2.2.1, x_545.2.2.2.2.2, w_515.2.1, w_515.2.2.1, w_515.2.2.2.1, s_58.2.2.2.2.2.2.2.2.2.1 + 4 + 4, s_58.2.2.2.2.2.2.2.2.2.2 + 40 + 40))) else some (.inr (.inr 0))))) else none)) else none)) (fun w_515 => (if ¬ ((s_58.1 + 1) < 0 ∨ nL ≤ (s_58.1 + 1).toNatClampNeg) then ((gX9w_row s_58.2.1 s_58.2.2.1 s_58.2.2.2.1 s_58.2.2.2.2.1 s_58.2.2.2.2.2.1 (xs (s_58.1 + 1).toNatClampNeg)).bind fun x_555 => (if s_58.2.2.2.2.2.2.2.2.2.1 + 4 + 4 ≤ 600002 ∧ s_58.2.2.2.2.2.2.2.2.2.2 + 40 + 40 ≤ 7302232 then ybr x_555 (fun w_567 => ((gX9w_thrown w_567.1 w_567.2.1 w_567.2.2.1 w_567.2.2.2.1 w_567.2.2.2.2.1).bind fun x_568 => (if x_568.1 = w_515.1 then (if w_515.1 = 0 then none else some (.inl (s_58.1 + 4, x_568.2.1, x_568.2.2.1, x_568.2.2.2.1, x_568.2.2.2.2.1, x_568.2.2.2.2.2, w_515.2.1, w_515.2.2.1, w_515.2.2.2, s_58.2.2.2.2.2.2.2.2.2.1 + 4 + 4, s_58.2.2.2.2.2.2.2.2.2.2 + 40 + 40))) else some (.inr (.inr 0))))) (fun w_567 => ((gX9w_thrown w_567.1 w_567.2.1 w_567.2.2.1 w_567.2.2.2.1 w_567.2.2.2.2).bind fun x_577 => (if x_577.1 = w_515.1 then (if w_515.1 = 0 then none else some (.inl (s_58.1 + 4, x_577.2.1, x_577.2.2.1, x_577.2.2.2.1, x_577.2.2.2.2.1, x_577.2.2.2.2.2, w_515.2.1, w_515.2.2.1, w_515.2.2.2, s_58.2.2.2.2.2.2.2.2.2.1 + 4 + 4, s_58.2.2.2.2.2.2.2.2.2.2 + 40 + 40))) else some (.inr (.inr 0))))) else none)) else none)) else none)) else none) else (if ((xs s_58.1.toNatClampNeg) &&& 31) = 16 then (if ¬ ((s_58.1 + 1) < 0 ∨ nL ≤ (s_58.1 + 1).toNatClampNeg) then (if ¬ ((s_58.1 + 2) < 0 ∨ nL ≤ (s_58.1 + 2).toNatClampNeg) then ((gL_beats s_58.2.2.2.2.2.2.1 s_58.2.2.2.2.2.2.2.1 s_58.2.2.2.2.2.2.2.2.1 (xs (s_58.1 + 1).toNatClampNeg) (xs (s_58.1 + 2).toNatClampNeg)).bind fun x_589 => (if s_58.2.2.2.2.2.2.2.2.2.1 + 1 ≤ 600002 ∧ s_58.2.2.2.2.2.2.2.2.2.2 + 6 ≤ 7302232 then (if ¬ ((s_58.1 + 1) < 0 ∨ nL ≤ (s_58.1 + 1).toNatClampNeg) then (if ¬ ((s_58.1 + 2) < 0 ∨ nL ≤ (s_58.1 + 2).toNatClampNeg) then ((gX9w_beats s_58.2.1 s_58.2.2.1 s_58.2.2.2.1 s_58.2.2.2.2.1 s_58.2.2.2.2.2.1 (xs (s_58.1 + 1).toNatClampNeg) (xs (s_58.1 + 2).toNatClampNeg)).bind fun x_597 => ((gX9w_thrown x_597.2.1 x_597.2.2.1 x_597.2.2.2.1 x_597.2.2.2.2.1 x_597.2.2.2.2.2).bind fun x_603 => (if x_603.1 = x_589.1 then (if x_589.1 = 0 then (if (lg_cmp x_589.2.2.2 x_597.1.toInt64) = 0 then some (.inl (s_58.1 + 4, x_603.2.1, x_603.2.2.1, x_603.2.2.2.1, x_603.2.2.2.2.1, x_603.2.2.2.2.2, x_589.2.1, x_589.2.2.1, x_589.2.2.2, s_58.2.2.2.2.2.2.2.2.2.1 + 1, s_58.2.2.2.2.2.2.2.2.2.2 + 6)) else some (.inr (.inr 0))) else some (.inl (s_58.1 + 4, x_603.2.1, x_603.2.2.1, x_603.2.2.2.1, x_603.2.2.2.2.1, x_603.2.2.2.2.2, x_589.2.1, x_589.2.2.1, x_589.2.2.2, s_58.2.2.2.2.2.2.2.2.2.1 + 1, s_58.2.2.2.2.2.2.2.2.2.2 + 6))) else some (.inr (.inr 0))))) else none) else none) else none)) else none) else none) else (if ((xs s_58.1.toNatClampNeg) &&& 31) = 17 then (if ¬ ((s_58.1 + 1) < 0 ∨ nL ≤ (s_58.1 + 1).toNatClampNeg) then ((gL_best s_58.2.2.2.2.2.2.1 s_58.2.2.2.2.2.2.2.1 s_58.2.2.2.2.2.2.2.2.1 (xs (s_58.1 + 1).toNatClampNeg)).bind fun x_616 => (if s_58.2.2.2.2.2.2.2.2.2.1 + 1 ≤ 600002 ∧ s_58.2.2.2.2.2.2.2.2.2.2 + 6 ≤ 7302232 then (if ¬ ((s_58.1 + 1) < 0 ∨ nL ≤ (s_58.1 + 1).toNatClampNeg) then ((gX9w_best s_58.2.1 s_58.2.2.1 s_58.2.2.2.1 s_58.2.2.2.2.1 s_58.2.2.2.2.2.1 (xs (s_58.1 + 1).toNatClampNeg)).bind fun x_623 => (if s_58.2.2.2.2.2.2.2.2.2.1 + 1 + 30 ≤ 600002 ∧ s_58.2.2.2.2.2.2.2.2.2.2 + 6 + 60 ≤ 7302232 then ((gX9w_thrown x_623.2.1 x_623.2.2.1 x_623.2.2.2.1 x_623.2.2.2.2.1 x_623.2.2.2.2.2).bind fun x_630 => (if x_630.1 = x_616.1 then (if x_616.1 = 0 then (if (lg_cmp x_616.2.2.2 x_623.1.toInt64) = 0 then some (.inl (s_58.1 + 4, x_630.2.1, x_630.2.2.1, x_630.2.2.2.1, x_630.2.2.2.2.1, x_630.2.2.2.2.2, x_616.2.1, x_616.2.2.1, x_616.2.2.2, s_58.2.2.2.2.2.2.2.2.2.1 + 1 + 30, s_58.2.2.2.2.2.2.2.2.2.2 + 6 + 60)) else some (.inr (.inr 0))) else some (.inl (s_58.1 + 4, x_630.2.1, x_630.2.2.1, x_630.2.2.2.1, x_630.2.2.2.2.1, x_630.2.2.2.2.2, x_616.2.1, x_616.2.2.1, x_616.2.2.2, s_58.2.2.2.2.2.2.2.2.2.1 + 1 + 30, s_58.2.2.2.2.2.2.2.2.2.2 + 6 + 60))) else some (.inr (.inr 0)))) else none)) else none) else none)) else none) else (if ((xs s_58.1.toNatClampNeg) &&& 31) = 18 then ((gX6_saved s_58.2.2.2.2.2.2.1 s_58.2.2.2.2.2.2.2.1).bind fun x_642 => ((gX9w_saved s_58.2.1 s_58.2.2.1 s_58.2.2.2.1 s_58.2.2.2.2.1 s_58.2.2.2.2.2.1).bind fun x_646 => (if s_58.2.2.2.2.2.2.2.2.2.1 + 60 ≤ 600002 ∧ s_58.2.2.2.2.2.2.2.2.2.2 + 120 ≤ 7302232 then (if x_642.1 = x_646.1 then some (.inl (s_58.1 + 4, x_646.2.1, x_646.2.2.1, x_646.2.2.2.1, x_646.2.2.2.2.1, x_646.2.2.2.2.2, x_642.2.1, x_642.2.2, s_58.2.2.2.2.2.2.2.2.1, s_58.2.2.2.2.2.2.2.2.2.1 + 60, s_58.2.2.2.2.2.2.2.2.2.2 + 120)) else some (.inr (.inr 0))) else none))) else (if ((xs s_58.1.toNatClampNeg) &&& 31) = 19 then ((gX6_isSound s_58.2.2.2.2.2.2.1 s_58.2.2.2.2.2.2.2.1).bind fun x_656 => ((gX9w_isSound s_58.2.1 s_58.2.2.1 s_58.2.2.2.1 s_58.2.2.2.2.1 s_58.2.2.2.2.2.1).bind fun x_660 => (if s_58.2.2.2.2.2.2.2.2.2.1 + 30 ≤ 600002 ∧ s_58.2.2.2.2.2.2.2.2.2.2 + 60 ≤ 7302232 then (if x_656.1 = x_660.1 then some (.inl (s_58.1 + 4, x_660.2.1, x_660.2.2.1, x_660.2.2.2.1, x_660.2.2.2.2.1, x_660.2.2.2.2.2, x_656.2.1, x_656.2.2, s_58.2.2.2.2.2.2.2.2.1, s_58.2.2.2.2.2.2.2.2.2.1 + 30, s_58.2.2.2.2.2.2.2.2.2.2 + 60)) else some (.inr (.inr 0))) else none))) else (if ((xs s_58.1.toNatClampNeg) &&& 31) = 20 then ((gX6_digest s_58.2.2.2.2.2.2.1 s_58.2.2.2.2.2.2.2.1).bind fun x_670 => ((gX9w_digest s_58.2.1 s_58.2.2.1 s_58.2.2.2.1 s_58.2.2.2.2.1 s_58.2.2.2.2.2.1).bind fun x_674 => (if s_58.2.2.2.2.2.2.2.2.2.1 + 300 ≤ 600002 ∧ s_58.2.2.2.2.2.2.2.2.2.2 + 600 ≤ 7302232 then (if (lg_cmp x_670.1 x_674.1) = 0 then some (.inl (s_58.1 + 4, x_674.2.1, x_674.2.2.1, x_674.2.2.2.1, x_674.2.2.2.2.1, x_674.2.2.2.2.2, x_670.2.1, x_670.2.2, s_58.2.2.2.2.2.2.2.2.1, s_58.2.2.2.2.2.2.2.2.2.1 + 300, s_58.2.2.2.2.2.2.2.2.2.2 + 600)) else some (.inr (.inr 0))) else none))) else some (.inl (s_58.1 + 4, s_58.2.1, s_58.2.2.1, s_58.2.2.2.1, s_58.2.2.2.2.1, s_58.2.2.2.2.2.1, s_58.2.2.2.2.2.2.1, s_58.2.2.2.2.2.2.2.1, s_58.2.2.2.2.2.2.2.2.1, s_58.2.2.2.2.2.2.2.2.2.1, s_58.2.2.2.2.2.2.2.2.2.2))))))))))))))))))))))) else none)) else none)) yFuel (0, 0, MN0, ML0, MK0, MG0, CN0, CT0, 0, 0 + 1 + 22 + 1 + 47 + 1, 0 + 6 + 637 + 17 + 307 + 2)) (fun o => ∃ z, o = .inl z ∧ z.2.2.2.2.2.2.2.2.2.1 ≤ 400000 ∧ z.2.2.2.2.2.2.2.2.2.2 ≤ 2000000) := by
  refine Ok.for (fun (q : Nat) (s : Int32 × Nat × (Nat → Int32) × Int64 × (Nat → Nat) × (Nat → Nat → Nat → Int32) × (Nat → Int32) × (Nat → Nat → Int32) × Int64 × Nat × Nat) => s.1 = nI (4 * q) ∧ yR4 (2000 * q) s.2.2.2.2.2.2.1 s.2.2.2.2.2.2.2.1 s.2.1 s.2.2.1 s.2.2.2.1 s.2.2.2.2.1 s.2.2.2.2.2.1 ∧ s.2.2.2.2.2.2.2.2.2.1 ≤ 100 + 400 * q ∧ s.2.2.2.2.2.2.2.2.2.2 ≤ 2000 + 2000 * q) 0 (nL / 4) ⟨rfl, yR4_0, by decide, by decide⟩ (Nat.zero_le _) (by omega) (fun q s _ hq hI => ?_) (fun s hI => ?_)
  · obtain ⟨i, sh, m, L, k, G, n, t, on, cl, sl⟩ := s
    obtain ⟨hi, hR, hcl, hsl⟩ := hI
    have hi : i = nI (4 * q) := hi
    subst hi
    have hR : yR4 (2000 * q) n t sh m L k G := hR
    have hcl : cl ≤ 100 + 400 * q := hcl
    have hsl : sl ≤ 2000 + 2000 * q := hsl
    have hq4 : 4 * q + 4 ≤ nL := by omega
    have hi4 : nI (4 * q) + 4 = nI (4 * (q + 1)) := by
      rw [li4, nj_add]
      rfl
    have p1 : nI (4 * q) + 1 = nI (4 * q + 1) := nj_add _ 1
    have p2 : nI (4 * q) + 2 = nI (4 * q + 2) := nj_add _ 2
    have p3 : nI (4 * q) + 3 = nI (4 * q + 3) := nj_add _ 3
    have hx0 : ¬ (nI (4 * q) < 0 ∨ nL ≤ (nI (4 * q)).toNatClampNeg) := nj_in (by omega) (by omega)
    have hx1 : ¬ (nI (4 * q) + 1 < 0 ∨ nL ≤ (nI (4 * q) + 1).toNatClampNeg) := by
      rw [p1]
      exact nj_in (by omega) (by omega)
    have hx2 : ¬ (nI (4 * q) + 2 < 0 ∨ nL ≤ (nI (4 * q) + 2).toNatClampNeg) := by
      rw [p2]
      exact nj_in (by omega) (by omega)
    have hx3 : ¬ (nI (4 * q) + 3 < 0 ∨ nL ≤ (nI (4 * q) + 3).toNatClampNeg) := by
      rw [p3]
      exact nj_in (by omega) (by omega)
    dsimp only
    refine Ok.grd ⟨by omega, by omega⟩ ?_
    refine Ok.ite (fun z => absurd z ?_) (fun _ => ?_)
    · rw [yi_lt, yi_nI (by omega), show (4 : Int32) = nI 4 from rfl, yi_sub (by rw [yi_nI (by omega), yi_nI (by omega)]; omega) (by rw [yi_nI (by omega), yi_nI (by omega)]; omega), yi_nI (by omega), yi_nI (by omega)]
      omega
    refine Ok.grd hx0 ?_
    refine Ok.ite (fun _ => ?_) (fun _ => ?_)
    · refine Ok.grd hx1 ?_
      refine Ok.grd hx2 ?_
      refine Ok.grd hx3 ?_
      obtain ⟨x68, y68, ex68, ey68, hR68, ht68, ha68⟩ := s4_shape (L := L) (on := on) (i1 := (xs (nI (4 * q) + 1).toNatClampNeg)) (i2 := (xs (nI (4 * q) + 2).toNatClampNeg)) (i3 := (xs (nI (4 * q) + 3).toNatClampNeg)) hR
      refine Ok.to ex68 ?_
      refine Ok.grd ⟨by omega, by omega⟩ ?_
      refine Ok.grd hx1 ?_
      refine Ok.grd hx2 ?_
      refine Ok.grd hx3 ?_
      refine Ok.to ey68 ?_
      refine Ok.grd ⟨by omega, by omega⟩ ?_
      refine Ok.to e_thrown ?_
      refine Ok.ite (fun _ => ?_) (fun z => absurd ht68 z)
      refine Ok.ite (fun z68 => ?_) (fun z68 => ?_)
      · refine Ok.ite (fun _ => ?_) (fun z => absurd ((yCmp _ _).mpr (ha68 z68)) z)
        exact Ok.some ⟨hi4, (yR4_mono (yR4_m hR68) (by omega)), by dsimp only; omega, by dsimp only; omega⟩
      · exact Ok.some ⟨hi4, (yR4_mono (yR4_m hR68) (by omega)), by dsimp only; omega, by dsimp only; omega⟩
    · refine Ok.ite (fun _ => ?_) (fun _ => ?_)
      · refine Ok.grd hx1 ?_
        refine Ok.grd hx2 ?_
        refine Ok.grd hx3 ?_
        obtain ⟨x99, y99, ex99, ey99, hR99, ht99, ha99⟩ := s4_left (L := L) (on := on) (i1 := (xs (nI (4 * q) + 1).toNatClampNeg)) (i2 := (xs (nI (4 * q) + 2).toNatClampNeg)) (i3 := (xs (nI (4 * q) + 3).toNatClampNeg)) hR
        refine Ok.to ex99 ?_
        refine Ok.grd ⟨by omega, by omega⟩ ?_
        refine Ok.grd hx1 ?_
        refine Ok.grd hx2 ?_
        refine Ok.grd hx3 ?_
        refine Ok.to ey99 ?_
        refine Ok.to e_thrown ?_
        refine Ok.ite (fun _ => ?_) (fun z => absurd ht99 z)
        refine Ok.ite (fun z99 => ?_) (fun z99 => ?_)
        · refine Ok.ite (fun _ => ?_) (fun z => absurd ((yCmp _ _).mpr (ha99 z99)) z)
          exact Ok.some ⟨hi4, (yR4_mono (yR4_m hR99) (by omega)), by dsimp only; omega, by dsimp only; omega⟩
        · exact Ok.some ⟨hi4, (yR4_mono (yR4_m hR99) (by omega)), by dsimp only; omega, by dsimp only; omega⟩
      · refine Ok.ite (fun _ => ?_) (fun _ => ?_)
        · refine Ok.grd hx1 ?_
          refine Ok.grd hx2 ?_
          refine Ok.grd hx3 ?_
          obtain ⟨x129, y129, ex129, ey129, hR129, ht129, ha129⟩ := s4_top (L := L) (on := on) (i1 := (xs (nI (4 * q) + 1).toNatClampNeg)) (i2 := (xs (nI (4 * q) + 2).toNatClampNeg)) (i3 := (xs (nI (4 * q) + 3).toNatClampNeg)) hR
          refine Ok.to ex129 ?_
          refine Ok.grd ⟨by omega, by omega⟩ ?_
          refine Ok.grd hx1 ?_
          refine Ok.grd hx2 ?_
          refine Ok.grd hx3 ?_
          refine Ok.to ey129 ?_
          refine Ok.to e_thrown ?_
          refine Ok.ite (fun _ => ?_) (fun z => absurd ht129 z)
          refine Ok.ite (fun z129 => ?_) (fun z129 => ?_)
          · refine Ok.ite (fun _ => ?_) (fun z => absurd ((yCmp _ _).mpr (ha129 z129)) z)
            exact Ok.some ⟨hi4, (yR4_mono (yR4_m hR129) (by omega)), by dsimp only; omega, by dsimp only; omega⟩
          · exact Ok.some ⟨hi4, (yR4_mono (yR4_m hR129) (by omega)), by dsimp only; omega, by dsimp only; omega⟩
        · refine Ok.ite (fun _ => ?_) (fun _ => ?_)
          · refine Ok.grd hx1 ?_
            obtain ⟨x157, y157, ex157, ey157, hR157, ht157, ha157⟩ := s4_kind (L := L) (on := on) (i1 := (xs (nI (4 * q) + 1).toNatClampNeg)) hR
            refine Ok.to ex157 ?_
            refine Ok.grd ⟨by omega, by omega⟩ ?_
            refine Ok.grd hx1 ?_
            refine Ok.to ey157 ?_
            refine Ok.to e_thrown ?_
            refine Ok.ite (fun _ => ?_) (fun z => absurd ht157 z)
            refine Ok.ite (fun z157 => ?_) (fun z157 => ?_)
            · refine Ok.ite (fun _ => ?_) (fun z => absurd ((yCmp _ _).mpr (ha157 z157)) z)
              exact Ok.some ⟨hi4, (yR4_mono (yR4_m hR157) (by omega)), by dsimp only; omega, by dsimp only; omega⟩
            · exact Ok.some ⟨hi4, (yR4_mono (yR4_m hR157) (by omega)), by dsimp only; omega, by dsimp only; omega⟩
          · refine Ok.ite (fun _ => ?_) (fun _ => ?_)
            · refine Ok.grd hx1 ?_
              refine Ok.to (yb_iten _) ?_
              obtain ⟨x185, y185, ex185, ey185, hR185, ht185, ha185, hb185⟩ := s4_checked (L := L) (on := on) (i1 := (yb !decide ((xs (nI (4 * q) + 1).toNatClampNeg) = 0))) hR (yBb _)
              refine Ok.to ex185 ?_
              refine Ok.grd ⟨by omega, by omega⟩ ?_
              refine Ok.grd hx1 ?_
              refine Ok.to (yb_iten _) ?_
              refine Ok.to ey185 ?_
              refine Ok.to e_thrown ?_
              refine Ok.ite (fun _ => ?_) (fun z => absurd ht185 z)
              refine Ok.ite (fun z185 => ?_) (fun z185 => ?_)
              · refine Ok.to (yb64 hb185) ?_
                refine Ok.ite (fun _ => ?_) (fun z => absurd ((yCmp _ _).mpr (ha185 z185)) z)
                exact Ok.some ⟨hi4, (yR4_mono (yR4_m hR185) (by omega)), by dsimp only; omega, by dsimp only; omega⟩
              · exact Ok.some ⟨hi4, (yR4_mono (yR4_m hR185) (by omega)), by dsimp only; omega, by dsimp only; omega⟩
            · refine Ok.ite (fun _ => ?_) (fun _ => ?_)
              · refine Ok.grd hx1 ?_
                refine Ok.grd hx2 ?_
                refine Ok.grd hx3 ?_
                refine Ok.to (yb_iten _) ?_
                obtain ⟨x228, y228, ex228, ey228, hR228, ht228, ha228⟩ := s4_broken (L := L) (on := on) (i1 := (xs (nI (4 * q) + 1).toNatClampNeg)) (i2 := (xs (nI (4 * q) + 2).toNatClampNeg)) (isb := (yb !decide ((xs (nI (4 * q) + 3).toNatClampNeg) = 0))) hR (yBb _)
                refine Ok.to ex228 ?_
                refine Ok.grd ⟨by omega, by omega⟩ ?_
                refine Ok.grd hx1 ?_
                refine Ok.grd hx2 ?_
                refine Ok.grd hx3 ?_
                refine Ok.to (yb_iten _) ?_
                refine Ok.to ey228 ?_
                refine Ok.to e_thrown ?_
                refine Ok.ite (fun _ => ?_) (fun z => absurd ht228 z)
                refine Ok.ite (fun z228 => ?_) (fun z228 => ?_)
                · refine Ok.ite (fun _ => ?_) (fun z => absurd ((yCmp _ _).mpr (ha228 z228)) z)
                  exact Ok.some ⟨hi4, (yR4_mono (yR4_m hR228) (by omega)), by dsimp only; omega, by dsimp only; omega⟩
                · exact Ok.some ⟨hi4, (yR4_mono (yR4_m hR228) (by omega)), by dsimp only; omega, by dsimp only; omega⟩
              · refine Ok.ite (fun _ => ?_) (fun _ => ?_)
                · obtain ⟨x263, y263, ex263, ey263, hR263, ht263, ha263⟩ := s4_test (L := L) (on := on)  hR
                  refine Ok.to ex263 ?_
                  refine Ok.grd ⟨by omega, by omega⟩ ?_
                  refine Ok.to ey263 ?_
                  refine Ok.grd ⟨by omega, by omega⟩ ?_
                  refine Ok.to e_thrown ?_
                  refine Ok.ite (fun _ => ?_) (fun z => absurd ht263 z)
                  refine Ok.ite (fun z263 => ?_) (fun z263 => ?_)
                  · refine Ok.ite (fun _ => ?_) (fun z => absurd ((yCmp _ _).mpr (ha263 z263)) z)
                    exact Ok.some ⟨hi4, (yR4_mono (yR4_m hR263) (by omega)), by dsimp only; omega, by dsimp only; omega⟩
                  · exact Ok.some ⟨hi4, (yR4_mono (yR4_m hR263) (by omega)), by dsimp only; omega, by dsimp only; omega⟩
                · refine Ok.ite (fun _ => ?_) (fun _ => ?_)
                  · obtain ⟨x288, y288, ex288, ey288, hR288, ht288, ha288⟩ := s4_start (L := L) (on := on)  hR
                    refine Ok.to ex288 ?_
                    refine Ok.grd ⟨by omega, by omega⟩ ?_
                    refine Ok.to ey288 ?_
                    refine Ok.grd ⟨by omega, by omega⟩ ?_
                    refine Ok.to e_thrown ?_
                    refine Ok.ite (fun _ => ?_) (fun z => absurd ht288 z)
                    refine Ok.ite (fun z288 => ?_) (fun z288 => ?_)
                    · refine Ok.ite (fun _ => ?_) (fun z => absurd ((yCmp _ _).mpr (ha288 z288)) z)
                      exact Ok.some ⟨hi4, (yR4_mono (yR4_m hR288) (by omega)), by dsimp only; omega, by dsimp only; omega⟩
                    · exact Ok.some ⟨hi4, (yR4_mono (yR4_m hR288) (by omega)), by dsimp only; omega, by dsimp only; omega⟩
                  · refine Ok.ite (fun _ => ?_) (fun _ => ?_)
                    · refine Ok.grd hx1 ?_
                      obtain ⟨x314, y314, ex314, ey314, hR314, ht314, ha314⟩ := s4_beat (L := L) (on := on) (i1 := (xs (nI (4 * q) + 1).toNatClampNeg)) hR
                      refine Ok.to ex314 ?_
                      refine Ok.grd ⟨by omega, by omega⟩ ?_
                      refine Ok.grd hx1 ?_
                      refine Ok.to ey314 ?_
                      refine Ok.grd ⟨by omega, by omega⟩ ?_
                      refine Ok.to e_thrown ?_
                      refine Ok.ite (fun _ => ?_) (fun z => absurd ht314 z)
                      refine Ok.ite (fun z314 => ?_) (fun z314 => ?_)
                      · refine Ok.ite (fun _ => ?_) (fun z => absurd ((yCmp _ _).mpr (ha314 z314)) z)
                        exact Ok.some ⟨hi4, (yR4_mono (yR4_m hR314) (by omega)), by dsimp only; omega, by dsimp only; omega⟩
                      · exact Ok.some ⟨hi4, (yR4_mono (yR4_m hR314) (by omega)), by dsimp only; omega, by dsimp only; omega⟩
                    · refine Ok.ite (fun _ => ?_) (fun _ => ?_)
                      · refine Ok.grd hx1 ?_
                        refine Ok.grd hx2 ?_
                        refine Ok.grd hx3 ?_
                        obtain ⟨x343, y343, ex343, ey343, hR343, ht343, ha343⟩ := s4_bend (L := L) (on := on) (i1 := (xs (nI (4 * q) + 1).toNatClampNeg)) (i2 := (xs (nI (4 * q) + 2).toNatClampNeg)) (i3 := (xs (nI (4 * q) + 3).toNatClampNeg)) hR
                        refine Ok.to ex343 ?_
                        refine Ok.grd ⟨by omega, by omega⟩ ?_
                        refine Ok.grd hx1 ?_
                        refine Ok.grd hx2 ?_
                        refine Ok.grd hx3 ?_
                        refine Ok.to ey343 ?_
                        refine Ok.to e_thrown ?_
                        refine Ok.ite (fun _ => ?_) (fun z => absurd ht343 z)
                        refine Ok.ite (fun z343 => ?_) (fun z343 => ?_)
                        · refine Ok.ite (fun _ => ?_) (fun z => absurd ((yCmp _ _).mpr (ha343 z343)) z)
                          exact Ok.some ⟨hi4, (yR4_mono (yR4_m hR343) (by omega)), by dsimp only; omega, by dsimp only; omega⟩
                        · exact Ok.some ⟨hi4, (yR4_mono (yR4_m hR343) (by omega)), by dsimp only; omega, by dsimp only; omega⟩
                      · refine Ok.ite (fun _ => ?_) (fun _ => ?_)
                        · obtain ⟨x370, y370, ex370, ey370, hR370, ht370, ha370⟩ := s4_check (L := L) (on := on)  hR
                          refine Ok.to ex370 ?_
                          refine Ok.grd ⟨by omega, by omega⟩ ?_
                          refine Ok.to ey370 ?_
                          refine Ok.to e_thrown ?_
                          refine Ok.ite (fun _ => ?_) (fun z => absurd ht370 z)
                          refine Ok.ite (fun z370 => ?_) (fun z370 => ?_)
                          · refine Ok.ite (fun _ => ?_) (fun z => absurd ((yCmp _ _).mpr (ha370 z370)) z)
                            exact Ok.some ⟨hi4, (yR4_mono (yR4_m hR370) (by omega)), by dsimp only; omega, by dsimp only; omega⟩
                          · exact Ok.some ⟨hi4, (yR4_mono (yR4_m hR370) (by omega)), by dsimp only; omega, by dsimp only; omega⟩
                        · refine Ok.ite (fun _ => ?_) (fun _ => ?_)
                          · refine Ok.grd hx1 ?_
                            obtain ⟨x395, y395, ex395, ey395, hR395, ht395, ha395⟩ := s4_mesh (L := L) (on := on) (i1 := (xs (nI (4 * q) + 1).toNatClampNeg)) hR
                            refine Ok.to ex395 ?_
                            refine Ok.grd ⟨by omega, by omega⟩ ?_
                            refine Ok.grd hx1 ?_
                            refine Ok.to ey395 ?_
                            refine Ok.to e_thrown ?_
                            refine Ok.ite (fun _ => ?_) (fun z => absurd ht395 z)
                            refine Ok.ite (fun z395 => ?_) (fun z395 => ?_)
                            · refine Ok.ite (fun _ => ?_) (fun z => absurd ((yCmp _ _).mpr (ha395 z395)) z)
                              exact Ok.some ⟨hi4, (yR4_mono (yR4_m hR395) (by omega)), by dsimp only; omega, by dsimp only; omega⟩
                            · exact Ok.some ⟨hi4, (yR4_mono (yR4_m hR395) (by omega)), by dsimp only; omega, by dsimp only; omega⟩
                          · refine Ok.ite (fun _ => ?_) (fun _ => ?_)
                            · refine Ok.grd hx1 ?_
                              refine Ok.grd hx2 ?_
                              refine Ok.grd hx3 ?_
                              obtain ⟨x423, y423, ex423, ey423, hR423, ht423, ha423⟩ := s4_ofCell (L := L) (on := on) (i1 := (xs (nI (4 * q) + 1).toNatClampNeg)) (i2 := (xs (nI (4 * q) + 2).toNatClampNeg)) (i3 := (xs (nI (4 * q) + 3).toNatClampNeg)) hR
                              refine Ok.to ex423 ?_
                              refine Ok.grd ⟨by omega, by omega⟩ ?_
                              refine Ok.grd hx1 ?_
                              refine Ok.grd hx2 ?_
                              refine Ok.grd hx3 ?_
                              refine Ok.to ey423 ?_
                              refine Ok.to e_thrown ?_
                              refine Ok.ite (fun _ => ?_) (fun z => absurd ht423 z)
                              refine Ok.ite (fun z423 => ?_) (fun z423 => ?_)
                              · refine Ok.ite (fun _ => ?_) (fun z => absurd ((yCmp _ _).mpr (ha423 z423)) z)
                                exact Ok.some ⟨hi4, (yR4_mono (yR4_m hR423) (by omega)), by dsimp only; omega, by dsimp only; omega⟩
                              · exact Ok.some ⟨hi4, (yR4_mono (yR4_m hR423) (by omega)), by dsimp only; omega, by dsimp only; omega⟩
                            · refine Ok.ite (fun _ => ?_) (fun _ => ?_)
                              · refine Ok.grd hx1 ?_
                                refine Ok.grd hx2 ?_
                                obtain ⟨x452, y452, ex452, ey452, hR452, ht452, ha452⟩ := s4_result (L := L) (on := on) (i1 := (xs (nI (4 * q) + 1).toNatClampNeg)) (i2 := (xs (nI (4 * q) + 2).toNatClampNeg)) hR
                                refine Ok.to ex452 ?_
                                refine Ok.grd ⟨by omega, by omega⟩ ?_
                                refine Ok.grd hx1 ?_
                                refine Ok.grd hx2 ?_
                                refine Ok.to ey452 ?_
                                refine Ok.to e_thrown ?_
                                refine Ok.ite (fun _ => ?_) (fun z => absurd ht452 z)
                                refine Ok.ite (fun z452 => ?_) (fun z452 => ?_)
                                · refine Ok.ite (fun _ => ?_) (fun z => absurd ((yCmp _ _).mpr (ha452 z452)) z)
                                  exact Ok.some ⟨hi4, (yR4_mono (yR4_m hR452) (by omega)), by dsimp only; omega, by dsimp only; omega⟩
                                · exact Ok.some ⟨hi4, (yR4_mono (yR4_m hR452) (by omega)), by dsimp only; omega, by dsimp only; omega⟩
                              · refine Ok.ite (fun _ => ?_) (fun _ => ?_)
                                · refine Ok.grd hx1 ?_
                                  refine Ok.grd hx2 ?_
                                  obtain ⟨x480, y480, ex480, ey480, hR480, ht480, ha480⟩ := s4_plain (L := L) (on := on) (i1 := (xs (nI (4 * q) + 1).toNatClampNeg)) (i2 := (xs (nI (4 * q) + 2).toNatClampNeg)) hR
                                  refine Ok.to ex480 ?_
                                  refine Ok.grd ⟨by omega, by omega⟩ ?_
                                  refine Ok.grd hx1 ?_
                                  refine Ok.grd hx2 ?_
                                  refine Ok.to ey480 ?_
                                  refine Ok.to e_thrown ?_
                                  refine Ok.ite (fun _ => ?_) (fun z => absurd ht480 z)
                                  refine Ok.ite (fun z480 => ?_) (fun z480 => ?_)
                                  · refine Ok.ite (fun _ => ?_) (fun z => absurd ((yCmp _ _).mpr (ha480 z480)) z)
                                    exact Ok.some ⟨hi4, (yR4_mono (yR4_m hR480) (by omega)), by dsimp only; omega, by dsimp only; omega⟩
                                  · exact Ok.some ⟨hi4, (yR4_mono (yR4_m hR480) (by omega)), by dsimp only; omega, by dsimp only; omega⟩
                                · refine Ok.ite (fun _ => ?_) (fun _ => ?_)
                                  · refine Ok.grd hx1 ?_
                                    rcases s4_row (L := L) (on := on) (i1 := (xs (nI (4 * q) + 1).toNatClampNeg)) hR with ⟨f, ex, ey, hR0⟩ | ⟨ex, ey, hR0⟩
                                    · refine Ok.to ex ?_
                                      refine Ok.grd ⟨by omega, by omega⟩ ?_
                                      rw [ybr_il]
                                      refine Ok.grd hx1 ?_
                                      refine Ok.to ey ?_
                                      refine Ok.grd ⟨by omega, by omega⟩ ?_
                                      rw [ybr_il]
                                      refine Ok.to e_thrown ?_
                                      refine Ok.ite (fun _ => ?_) (fun z => absurd rfl z)
                                      refine Ok.ite (fun _ => ?_) (fun z => absurd rfl z)
                                      refine Ok.to e_equals ?_
                                      refine Ok.ite (fun z => absurd z (by decide)) (fun _ => ?_)
                                      exact Ok.some ⟨hi4, (yR4_mono (yR4_m hR0) (by omega)), by dsimp only; omega, by dsimp only; omega⟩
                                    · refine Ok.to ex ?_
                                      refine Ok.grd ⟨by omega, by omega⟩ ?_
                                      rw [ybr_ir]
                                      refine Ok.grd hx1 ?_
                                      refine Ok.to ey ?_
                                      refine Ok.grd ⟨by omega, by omega⟩ ?_
                                      rw [ybr_ir]
                                      refine Ok.to e_thrown ?_
                                      refine Ok.ite (fun _ => ?_) (fun z => absurd rfl z)
                                      refine Ok.ite (fun z => absurd (show (1 : Int32) = 0 from z) (by decide)) (fun _ => ?_)
                                      exact Ok.some ⟨hi4, (yR4_mono (yR4_m hR0) (by omega)), by dsimp only; omega, by dsimp only; omega⟩
                                  · refine Ok.ite (fun _ => ?_) (fun _ => ?_)
                                    · refine Ok.grd hx1 ?_
                                      refine Ok.grd hx2 ?_
                                      obtain ⟨x589, y589, ex589, ey589, hR589, ht589, ha589⟩ := s4_beats (L := L) (on := on) (i1 := (xs (nI (4 * q) + 1).toNatClampNeg)) (i2 := (xs (nI (4 * q) + 2).toNatClampNeg)) hR
                                      refine Ok.to ex589 ?_
                                      refine Ok.grd ⟨by omega, by omega⟩ ?_
                                      refine Ok.grd hx1 ?_
                                      refine Ok.grd hx2 ?_
                                      refine Ok.to ey589 ?_
                                      refine Ok.to e_thrown ?_
                                      refine Ok.ite (fun _ => ?_) (fun z => absurd ht589 z)
                                      refine Ok.ite (fun z589 => ?_) (fun z589 => ?_)
                                      · refine Ok.ite (fun _ => ?_) (fun z => absurd ((yCmp _ _).mpr (ha589 z589)) z)
                                        exact Ok.some ⟨hi4, (yR4_mono (yR4_m hR589) (by omega)), by dsimp only; omega, by dsimp only; omega⟩
                                      · exact Ok.some ⟨hi4, (yR4_mono (yR4_m hR589) (by omega)), by dsimp only; omega, by dsimp only; omega⟩
                                    · refine Ok.ite (fun _ => ?_) (fun _ => ?_)
                                      · refine Ok.grd hx1 ?_
                                        obtain ⟨x616, y616, ex616, ey616, hR616, ht616, ha616⟩ := s4_best (L := L) (on := on) (i1 := (xs (nI (4 * q) + 1).toNatClampNeg)) hR
                                        refine Ok.to ex616 ?_
                                        refine Ok.grd ⟨by omega, by omega⟩ ?_
                                        refine Ok.grd hx1 ?_
                                        refine Ok.to ey616 ?_
                                        refine Ok.grd ⟨by omega, by omega⟩ ?_
                                        refine Ok.to e_thrown ?_
                                        refine Ok.ite (fun _ => ?_) (fun z => absurd ht616 z)
                                        refine Ok.ite (fun z616 => ?_) (fun z616 => ?_)
                                        · refine Ok.ite (fun _ => ?_) (fun z => absurd ((yCmp _ _).mpr (ha616 z616)) z)
                                          exact Ok.some ⟨hi4, (yR4_mono (yR4_m hR616) (by omega)), by dsimp only; omega, by dsimp only; omega⟩
                                        · exact Ok.some ⟨hi4, (yR4_mono (yR4_m hR616) (by omega)), by dsimp only; omega, by dsimp only; omega⟩
                                      · refine Ok.ite (fun _ => ?_) (fun _ => ?_)
                                        · obtain ⟨x642, y642, ex642, ey642, hR642, he642⟩ := sa_saved (L := L)  hR
                                          refine Ok.to ex642 ?_
                                          refine Ok.to ey642 ?_
                                          refine Ok.grd ⟨by omega, by omega⟩ ?_
                                          refine Ok.ite (fun _ => ?_) (fun z => absurd he642 z)
                                          exact Ok.some ⟨hi4, (yR4_mono hR642 (by omega)), by dsimp only; omega, by dsimp only; omega⟩
                                        · refine Ok.ite (fun _ => ?_) (fun _ => ?_)
                                          · obtain ⟨x656, y656, ex656, ey656, hR656, he656⟩ := sa_isSound (L := L)  hR (by omega)
                                            refine Ok.to ex656 ?_
                                            refine Ok.to ey656 ?_
                                            refine Ok.grd ⟨by omega, by omega⟩ ?_
                                            refine Ok.ite (fun _ => ?_) (fun z => absurd he656 z)
                                            exact Ok.some ⟨hi4, (yR4_mono hR656 (by omega)), by dsimp only; omega, by dsimp only; omega⟩
                                          · refine Ok.ite (fun _ => ?_) (fun _ => ?_)
                                            · obtain ⟨x670, y670, ex670, ey670, hR670, he670⟩ := sa_digest (L := L)  hR (by omega)
                                              refine Ok.to ex670 ?_
                                              refine Ok.to ey670 ?_
                                              refine Ok.grd ⟨by omega, by omega⟩ ?_
                                              refine Ok.ite (fun _ => ?_) (fun z => absurd ((yCmp _ _).mpr he670) z)
                                              exact Ok.some ⟨hi4, (yR4_mono hR670 (by omega)), by dsimp only; omega, by dsimp only; omega⟩
                                            · exact Ok.some ⟨hi4, (yR4_mono hR (by omega)), by dsimp only; omega, by dsimp only; omega⟩
  · obtain ⟨i, sh, m, L, k, G, n, t, on, cl, sl⟩ := s
    obtain ⟨hi, hR, hcl, hsl⟩ := hI
    have hi : i = nI (4 * (nL / 4)) := hi
    subst hi
    have hcl : cl ≤ 100 + 400 * (nL / 4) := hcl
    have hsl : sl ≤ 2000 + 2000 * (nL / 4) := hsl
    dsimp only
    refine Ok.grd ⟨by omega, by omega⟩ ?_
    refine Ok.ite (fun _ => ?_) (fun z => absurd ?_ z)
    · exact Ok.some ⟨_, rfl, by dsimp only; omega, by dsimp only; omega⟩
    · rw [yi_lt, yi_nI (by omega), show (4 : Int32) = nI 4 from rfl, yi_sub (by rw [yi_nI (by omega), yi_nI (by omega)]; omega) (by rw [yi_nI (by omega), yi_nI (by omega)]; omega), yi_nI (by omega), yi_nI (by omega)]
      omega
theorem yX6 : ∃ v, fX6_init = some v := by
  cases e : fX6_init with
  | none => exact absurd e (by decide +kernel)
  | some v => exact ⟨v, rfl⟩
theorem pure_law {L : Nat} {xs : Nat → Int32} (hL : L ≤ 2048) : fL_law L xs = some 1 := by
  obtain ⟨b, hb, z, rfl, h1, h2⟩ := ylaw_loop (xs := xs) hL
  obtain ⟨x, hx, hp⟩ := o_X9_lay_0 (i1 := 2) (i2 := 2) (i3 := 2) ⟨by decide, by decide⟩ ⟨by decide, by decide⟩ ⟨by decide, by decide⟩
  have e9 : ∃ v, fX9_init = some v := by
    unfold fX9_init
    exact ⟨_, bto (show fX8_init = some () from rfl) (bto hx rfl)⟩
  have e6 : ∃ v, fX6_init = some v := yX6
  obtain ⟨v9, e9⟩ := e9
  obtain ⟨v6, e6⟩ := e6
  unfold fL_law
  refine bto e6 ?_
  refine bto e9 ?_
  refine bto (show fX7_init = some () from rfl) ?_
  refine bto hb ?_
  rw [ybr_il]
  exact if_pos ⟨by omega, by omega⟩
