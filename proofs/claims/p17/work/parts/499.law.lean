theorem e_thrown {sh : Nat} {m : Nat → Int32} {L : Int64} {k : Nat → Nat} {G : Nat → Nat → Nat → Int32} : gX9w_thrown sh m L k G = some (m 0, min sh 2, m, L, k, G) := by
  match sh with
  | 0 => rfl
  | 1 => rfl
  | z + 2 =>
    have e : min (z + 2) 2 = 2 := by omega
    rw [e]
    rfl
/-! ===== the law ===== -/
theorem yR2_0 : yR2 CN0 CT0 0 MN0 MK0 MG0 := by
  refine ⟨by decide, 2, 2, 2, 0, 0, ⟨⟨⟨by decide, by decide⟩, ⟨by decide, by decide⟩, ⟨by decide, by decide⟩, by decide, by decide⟩, ?_, fun i j => Or.inl rfl, fun i j => Or.inl rfl, by decide, by decide, fun z => absurd z (by decide)⟩, ⟨rfl, rfl, rfl, rfl, rfl⟩, ?_, ?_⟩
  · exact ⟨by decide +kernel, by decide +kernel, by decide +kernel, by decide +kernel, by decide +kernel, by decide +kernel, by decide +kernel, by decide +kernel, by decide +kernel⟩
  · intro i j _ _
    obtain ⟨x, hx, hp⟩ := o_X9_lay_0 (i1 := 2) (i2 := 2) (i3 := 2) ⟨by decide, by decide⟩ ⟨by decide, by decide⟩ ⟨by decide, by decide⟩
    have e : fX9_init = some (0, 0, 0, 0, 0, 0, 0, 0, 0, 2, 2, 2, 0, 0, 2, 2, yZ, 2, 2, yZ) := by
      unfold fX9_init
      refine bto (show fX8_init = some () from rfl) ?_
      refine bto hx ?_
      rw [hp]
      rfl
    have e2 := iX9_init e
    show (0 : Int32) = rX9_init.2.2.2.2.2.2.2.2.2.2.2.2.2.2.2.2.1 i j
    rw [e2]
    rfl
  · intro i j _ _
    obtain ⟨x, hx, hp⟩ := o_X9_lay_0 (i1 := 2) (i2 := 2) (i3 := 2) ⟨by decide, by decide⟩ ⟨by decide, by decide⟩ ⟨by decide, by decide⟩
    have e : fX9_init = some (0, 0, 0, 0, 0, 0, 0, 0, 0, 2, 2, 2, 0, 0, 2, 2, yZ, 2, 2, yZ) := by
      unfold fX9_init
      refine bto (show fX8_init = some () from rfl) ?_
      refine bto hx ?_
      rw [hp]
      rfl
    have e2 := iX9_init e
    show (0 : Int32) = rX9_init.2.2.2.2.2.2.2.2.2.2.2.2.2.2.2.2.2.2.2 i j
    rw [e2]
    rfl
theorem yR4_m {W : Nat} {n : Nat → Int32} {t : Nat → Nat → Int32} {sh : Nat} {m : Nat → Int32} {L : Int64} {k : Nat → Nat} {G : Nat → Nat → Nat → Int32} (h : yR4 W n t sh m L k G) : yR4 W n t (min sh 2) m L k G := ⟨yR2_m h.1, yRest_congr ⟨fun _ _ _ => rfl, fun _ _ => rfl⟩ ⟨rfl, fun _ _ _ => rfl, fun _ _ => rfl, rfl, fun _ _ => rfl, fun _ _ => rfl⟩ h.2⟩
theorem yR4_0 : yR4 0 CN0 CT0 0 MN0 ML0 MK0 MG0 := by
  refine ⟨yR2_0, ?_, ?_, fun i j _ _ _ => rfl, by decide +kernel, fun z => absurd z (by decide), fun _ => ⟨rfl, by decide +kernel, fun i j _ _ => rfl, fun i j _ _ => rfl, rfl, rfl, fun _ => rfl, fun z => absurd z (by decide), fun i j z _ => absurd z (Nat.not_lt_zero _), 0, 0, by decide +kernel, ⟨fun _ _ => 0, fun i j _ _ => rfl, rfl⟩, by decide +kernel, Nat.le_refl _, Nat.le_refl _, by decide +kernel⟩⟩
  · intro q hq
    show yBB 0 q = (decide (q < 25) && !decide ((0 : Int32) = 0))
    rw [yBB_0, decide_eq_true rfl, Bool.not_true, Bool.and_false]
  · intro q hq
    show yBB 0 q = (decide (q < 25) && !decide ((0 : Int32) = 0))
    rw [yBB_0, decide_eq_true rfl, Bool.not_true, Bool.and_false]
theorem yBb (b : Bool) : Bo (yb b) := by cases b <;> decide
set_option maxHeartbeats 4000000 in
theorem ylaw_loop {nL : Nat} {xs : Nat → Int32} (hL : nL ≤ 2048) : Ok (wl (S := Int32 × Nat × (Nat → Int32) × Int64 × (Nat → Nat) × (Nat → Nat → Nat → Int32) × (Nat → Int32) × (Nat → Nat → Int32) × Int64 × Nat × Nat) (B := (Int32 × Nat × (Nat → Int32) × Int64 × (Nat → Nat) × (Nat → Nat → Nat → Int32) × (Nat → Int32) × (Nat → Nat → Int32) × Int64 × Nat × Nat) ⊕ Int32) (fun s_58 => (if s_58.2.2.2.2.2.2.2.2.2.1 ≤ 1005400 ∧ s_58.2.2.2.2.2.2.2.2.2.2 ≤ 6079904 then (if ((nI nL) - 4) < s_58.1 then some (.inr (.inl (s_58.1, s_58.2.1, s_58.2.2.1, s_58.2.2.2.1, s_58.2.2.2.2.1, s_58.2.2.2.2.2.1, s_58.2.2.2.2.2.2.1, s_58.2.2.2.2.2.2.2.1, s_58.2.2.2.2.2.2.2.2.1, s_58.2.2.2.2.2.2.2.2.2.1, s_58.2.2.2.2.2.2.2.2.2.2))) else (if ¬ (s_58.1 < 0 ∨ nL ≤ s_58.1.toNatClampNeg) then (if ((xs s_58.1.toNatClampNeg) &&& 31) = 0 then (if ¬ ((s_58.1 + 1) < 0 ∨ nL ≤ (s_58.1 + 1).toNatClampNeg) then (if ¬ ((s_58.1 + 2) < 0 ∨ nL ≤ (s_58.1 + 2).toNatClampNeg) then (if ¬ ((s_58.1 + 3) < 0 ∨ nL ≤ (s_58.1 + 3).toNatClampNeg) then ((gL_shape s_58.2.2.2.2.2.2.1 s_58.2.2.2.2.2.2.2.1 s_58.2.2.2.2.2.2.2.2.1 (xs (s_58.1 + 1).toNatClampNeg) (xs (s_58.1 + 2).toNatClampNeg) (xs (s_58.1 + 3).toNatClampNeg)).bind fun x_68 => (if s_58.2.2.2.2.2.2.2.2.2.1 + 1 ≤ 1005400 ∧ s_58.2.2.2.2.2.2.2.2.2.2 + 6 ≤ 6079904 then (if ¬ ((s_58.1 + 1) < 0 ∨ nL ≤ (s_58.1 + 1).toNatClampNeg) then (if ¬ ((s_58.1 + 2) < 0 ∨ nL ≤ (s_58.1 + 2).toNatClampNeg) then (if ¬ ((s_58.1 + 3) < 0 ∨ nL ≤ (s_58.1 + 3).toNatClampNeg) then ((gX9w_shape s_58.2.1 s_58.2.2.1 s_58.2.2.2.1 s_58.2.2.2.2.1 s_58.2.2.2.2.2.1 (xs (s_58.1 + 1).toNatClampNeg) (xs (s_58.1 + 2).toNatClampNeg) (xs (s_58.1 + 3).toNatClampNeg)).bind fun x_77 => (if s_58.2.2.2.2.2.2.2.2.2.1 + 1 + 20 ≤ 1005400 ∧ s_58.2.2.2.2.2.2.2.2.2.2 + 6 + 180 ≤ 6079904 then some (.inl (s_58.1 + 4, x_77.2.1, x_77.2.2.1, x_77.2.2.2.1, x_77.2.2.2.2.1, x_77.2.2.2.2.2, x_68.2.1, x_68.2.2.1, x_68.2.2.2, s_58.2.2.2.2.2.2.2.2.2.1 + 1 + 20, s_58.2.2.2.2.2.2.2.2.2.2 + 6 + 180)) else none)) else none) else none) else none) else none)) else none) else none) else none) else (if ((xs s_58.1.toNatClampNeg) &&& 31) = 1 then (if ¬ ((s_58.1 + 1) < 0 ∨ nL ≤ (s_58.1 + 1).toNatClampNeg) then (if ¬ ((s_58.1 + 2) < 0 ∨ nL ≤ (s_58.1 + 2).toNatClampNeg) then (if ¬ ((s_58.1 + 3) < 0 ∨ nL ≤ (s_58.1 + 3).toNatClampNeg) then ((gL_left s_58.2.2.2.2.2.2.1 s_58.2.2.2.2.2.2.2.1 s_58.2.2.2.2.2.2.2.2.1 (xs (s_58.1 + 1).toNatClampNeg) (xs (s_58.1 + 2).toNatClampNeg) (xs (s_58.1 + 3).toNatClampNeg)).bind fun x_88 => (if s_58.2.2.2.2.2.2.2.2.2.1 + 1 ≤ 1005400 ∧ s_58.2.2.2.2.2.2.2.2.2.2 + 6 ≤ 6079904 then (if ¬ ((s_58.1 + 1) < 0 ∨ nL ≤ (s_58.1 + 1).toNatClampNeg) then (if ¬ ((s_58.1 + 2) < 0 ∨ nL ≤ (s_58.1 + 2).toNatClampNeg) then (if ¬ ((s_58.1 + 3) < 0 ∨ nL ≤ (s_58.1 + 3).toNatClampNeg) then ((gX9w_left s_58.2.1 s_58.2.2.1 s_58.2.2.2.1 s_58.2.2.2.2.1 s_58.2.2.2.2.2.1 (xs (s_58.1 + 1).toNatClampNeg) (xs (s_58.1 + 2).toNatClampNeg) (xs (s_58.1 + 3).toNatClampNeg)).bind fun x_97 => some (.inl (s_58.1 + 4, x_97.2.1, x_97.2.2.1, x_97.2.2.2.1, x_97.2.2.2.2.1, x_97.2.2.2.2.2, x_88.2.1, x_88.2.2.1, x_88.2.2.2, s_58.2.2.2.2.2.2.2.2.2.1 + 1, s_58.2.2.2.2.2.2.2.2.2.2 + 6))) else none) else none) else none) else none)) else none) else none) else none) else (if ((xs s_58.1.toNatClampNeg) &&& 31) = 2 then (if ¬ ((s_58.1 + 1) < 0 ∨ nL ≤ (s_58.1 + 1).toNatClampNeg) then (if ¬ ((s_58.1 + 2) < 0 ∨ nL ≤ (s_58.1 + 2).toNatClampNeg) then (if ¬ ((s_58.1 + 3) < 0 ∨ nL ≤ (s_58.1 + 3).toNatClampNeg) then ((gL_top s_58.2.2.2.2.2.2.1 s_58.2.2.2.2.2.2.2.1 s_58.2.2.2.2.2.2.2.2.1 (xs (s_58.1 + 1).toNatClampNeg) (xs (s_58.1 + 2).toNatClampNeg) (xs (s_58.1 + 3).toNatClampNeg)).bind fun x_107 => (if s_58.2.2.2.2.2.2.2.2.2.1 + 1 ≤ 1005400 ∧ s_58.2.2.2.2.2.2.2.2.2.2 + 6 ≤ 6079904 then (if ¬ ((s_58.1 + 1) < 0 ∨ nL ≤ (s_58.1 + 1).toNatClampNeg) then (if ¬ ((s_58.1 + 2) < 0 ∨ nL ≤ (s_58.1 + 2).toNatClampNeg) then (if ¬ ((s_58.1 + 3) < 0 ∨ nL ≤ (s_58.1 + 3).toNatClampNeg) then ((gX9w_top s_58.2.1 s_58.2.2.1 s_58.2.2.2.1 s_58.2.2.2.2.1 s_58.2.2.2.2.2.1 (xs (s_58.1 + 1).toNatClampNeg) (xs (s_58.1 + 2).toNatClampNeg) (xs (s_58.1 + 3).toNatClampNeg)).bind fun x_116 => some (.inl (s_58.1 + 4, x_116.2.1, x_116.2.2.1, x_116.2.2.2.1, x_116.2.2.2.2.1, x_116.2.2.2.2.2, x_107.2.1, x_107.2.2.1, x_107.2.2.2, s_58.2.2.2.2.2.2.2.2.2.1 + 1, s_58.2.2.2.2.2.2.2.2.2.2 + 6))) else none) else none) else none) else none)) else none) else none) else none) else (if ((xs s_58.1.toNatClampNeg) &&& 31) = 3 then (if ¬ ((s_58.1 + 1) < 0 ∨ nL ≤ (s_58.1 + 1).toNatClampNeg) then ((gL_kind s_58.2.2.2.2.2.2.1 s_58.2.2.2.2.2.2.2.1 s_58.2.2.2.2.2.2.2.2.1 (xs (s_58.1 + 1).toNatClampNeg)).bind fun x_124 => (if s_58.2.2.2.2.2.2.2.2.2.1 + 1 ≤ 1005400 ∧ s_58.2.2.2.2.2.2.2.2.2.2 + 6 ≤ 6079904 then (if ¬ ((s_58.1 + 1) < 0 ∨ nL ≤ (s_58.1 + 1).toNatClampNeg) then ((gX9w_kind s_58.2.1 s_58.2.2.1 s_58.2.2.2.1 s_58.2.2.2.2.1 s_58.2.2.2.2.2.1 (xs (s_58.1 + 1).toNatClampNeg)).bind fun x_131 => some (.inl (s_58.1 + 4, x_131.2.1, x_131.2.2.1, x_131.2.2.2.1, x_131.2.2.2.2.1, x_131.2.2.2.2.2, x_124.2.1, x_124.2.2.1, x_124.2.2.2, s_58.2.2.2.2.2.2.2.2.2.1 + 1, s_58.2.2.2.2.2.2.2.2.2.2 + 6))) else none) else none)) else none) else (if ((xs s_58.1.toNatClampNeg) &&& 31) = 4 then (if ¬ ((s_58.1 + 1) < 0 ∨ nL ≤ (s_58.1 + 1).toNatClampNeg) then ((((if (xs (s_58.1 + 1).toNatClampNeg) = 0 then some 0 else some 1) : Option (Int32))).bind fun r_140 => ((gL_checked s_58.2.2.2.2.2.2.1 s_58.2.2.2.2.2.2.2.1 s_58.2.2.2.2.2.2.2.2.1 r_140).bind fun x_141 => (if s_58.2.2.2.2.2.2.2.2.2.1 + 1 ≤ 1005400 ∧ s_58.2.2.2.2.2.2.2.2.2.2 + 6 ≤ 6079904 then (if ¬ ((s_58.1 + 1) < 0 ∨ nL ≤ (s_58.1 + 1).toNatClampNeg) then ((((if (xs (s_58.1 + 1).toNatClampNeg) = 0 then some 0 else some 1) : Option (Int32))).bind fun r_149 => ((gX9w_checked s_58.2.1 s_58.2.2.1 s_58.2.2.2.1 s_58.2.2.2.2.1 s_58.2.2.2.2.2.1 r_149).bind fun x_150 => some (.inl (s_58.1 + 4, x_150.2.1, x_150.2.2.1, x_150.2.2.2.1, x_150.2.2.2.2.1, x_150.2.2.2.2.2, x_141.2.1, x_141.2.2.1, x_141.2.2.2, s_58.2.2.2.2.2.2.2.2.2.1 + 1, s_58.2.2.2.2.2.2.2.2.2.2 + 6)))) else none) else none))) else none) else (if ((xs s_58.1.toNatClampNeg) &&& 31) = 5 then (if ¬ ((s_58.1 + 1) < 0 ∨ nL ≤ (s_58.1 + 1).toNatClampNeg) then (if ¬ ((s_58.1 + 2) < 0 ∨ nL ≤ (s_58.1 + 2).toNatClampNeg) then (if ¬ ((s_58.1 + 3) < 0 ∨ nL ≤ (s_58.1 + 3).toNatClampNeg) then ((((if (xs (s_58.1 + 3).toNatClampNeg) = 0 then some 0 else some 1) : Option (Int32))).bind fun r_167 => ((gL_broken s_58.2.2.2.2.2.2.1 s_58.2.2.2.2.2.2.2.1 s_58.2.2.2.2.2.2.2.2.1 (xs (s_58.1 + 1).toNatClampNeg) (xs (s_58.1 + 2).toNatClampNeg) r_167).bind fun x_168 => (if s_58.2.2.2.2.2.2.2.2.2.1 + 1 ≤ 1005400 ∧ s_58.2.2.2.2.2.2.2.2.2.2 + 6 ≤ 6079904 then (if ¬ ((s_58.1 + 1) < 0 ∨ nL ≤ (s_58.1 + 1).toNatClampNeg) then (if ¬ ((s_58.1 + 2) < 0 ∨ nL ≤ (s_58.1 + 2).toNatClampNeg) then (if ¬ ((s_58.1 + 3) < 0 ∨ nL ≤ (s_58.1 + 3).toNatClampNeg) then ((((if (xs (s_58.1 + 3).toNatClampNeg) = 0 then some 0 else some 1) : Option (Int32))).bind fun r_178 => ((gX9w_broken s_58.2.1 s_58.2.2.1 s_58.2.2.2.1 s_58.2.2.2.2.1 s_58.2.2.2.2.2.1 (xs (s_58.1 + 1).toNatClampNeg) (xs (s_58.1 + 2).toNatClampNeg) r_178).bind fun x_179 => some (.inl (s_58.1 + 4, x_179.2.1, x_179.2.2.1, x_179.2.2.2.1, x_179.2.2.2.2.1, x_179.2.2.2.2.2, x_168.2.1, x_168.2.2.1, x_168.2.2.2, s_58.2.2.2.2.2.2.2.2.2.1 + 1, s_58.2.2.2.2.2.2.2.2.2.2 + 6)))) else none) else none) else none) else none))) else none) else none) else none) else (if ((xs s_58.1.toNatClampNeg) &&& 31) = 6 then ((gL_test s_58.2.2.2.2.2.2.1 s_58.2.2.2.2.2.2.2.1 s_58.2.2.2.2.2.2.2.2.1).bind fun x_192 => (if s_58.2.2.2.2.2.2.2.2.2.1 + 1 ≤ 1005400 ∧ s_58.2.2.2.2.2.2.2.2.2.2 + 6 ≤ 6079904 then ((gX9w_test s_58.2.1 s_58.2.2.1 s_58.2.2.2.1 s_58.2.2.2.2.1 s_58.2.2.2.2.2.1).bind fun x_198 => (if s_58.2.2.2.2.2.2.2.2.2.1 + 1 + 10 ≤ 1005400 ∧ s_58.2.2.2.2.2.2.2.2.2.2 + 6 + 50 ≤ 6079904 then some (.inl (s_58.1 + 4, x_198.2.1, x_198.2.2.1, x_198.2.2.2.1, x_198.2.2.2.2.1, x_198.2.2.2.2.2, x_192.2.1, x_192.2.2.1, x_192.2.2.2, s_58.2.2.2.2.2.2.2.2.2.1 + 1 + 10, s_58.2.2.2.2.2.2.2.2.2.2 + 6 + 50)) else none)) else none)) else (if ((xs s_58.1.toNatClampNeg) &&& 31) = 7 then ((gL_start s_58.2.2.2.2.2.2.1 s_58.2.2.2.2.2.2.2.1 s_58.2.2.2.2.2.2.2.2.1).bind fun x_206 => (if s_58.2.2.2.2.2.2.2.2.2.1 + 1 ≤ 1005400 ∧ s_58.2.2.2.2.2.2.2.2.2.2 + 6 ≤ 6079904 then ((gX9w_begin s_58.2.1 s_58.2.2.1 s_58.2.2.2.1 s_58.2.2.2.2.1 s_58.2.2.2.2.2.1).bind fun x_212 => (if s_58.2.2.2.2.2.2.2.2.2.1 + 1 + 100 ≤ 1005400 ∧ s_58.2.2.2.2.2.2.2.2.2.2 + 6 + 500 ≤ 6079904 then some (.inl (s_58.1 + 4, x_212.2.1, x_212.2.2.1, x_212.2.2.2.1, x_212.2.2.2.2.1, x_212.2.2.2.2.2, x_206.2.1, x_206.2.2.1, x_206.2.2.2, s_58.2.2.2.2.2.2.2.2.2.1 + 1 + 100, s_58.2.2.2.2.2.2.2.2.2.2 + 6 + 500)) else none)) else none)) else (if ((xs s_58.1.toNatClampNeg) &&& 31) = 8 then (if ¬ ((s_58.1 + 1) < 0 ∨ nL ≤ (s_58.1 + 1).toNatClampNeg) then ((gL_beat s_58.2.2.2.2.2.2.1 s_58.2.2.2.2.2.2.2.1 s_58.2.2.2.2.2.2.2.2.1 (xs (s_58.1 + 1).toNatClampNeg)).bind fun x_221 => (if s_58.2.2.2.2.2.2.2.2.2.1 + 1 ≤ 1005400 ∧ s_58.2.2.2.2.2.2.2.2.2.2 + 6 ≤ 6079904 then (if ¬ ((s_58.1 + 1) < 0 ∨ nL ≤ (s_58.1 + 1).toNatClampNeg) then ((gX9w_beat s_58.2.1 s_58.2.2.1 s_58.2.2.2.1 s_58.2.2.2.2.1 s_58.2.2.2.2.2.1 (xs (s_58.1 + 1).toNatClampNeg)).bind fun x_228 => (if s_58.2.2.2.2.2.2.2.2.2.1 + 1 + 200 ≤ 1005400 ∧ s_58.2.2.2.2.2.2.2.2.2.2 + 6 + 1800 ≤ 6079904 then some (.inl (s_58.1 + 4, x_228.2.1, x_228.2.2.1, x_228.2.2.2.1, x_228.2.2.2.2.1, x_228.2.2.2.2.2, x_221.2.1, x_221.2.2.1, x_221.2.2.2, s_58.2.2.2.2.2.2.2.2.2.1 + 1 + 200, s_58.2.2.2.2.2.2.2.2.2.2 + 6 + 1800)) else none)) else none) else none)) else none) else (if ((xs s_58.1.toNatClampNeg) &&& 31) = 9 then (if ¬ ((s_58.1 + 1) < 0 ∨ nL ≤ (s_58.1 + 1).toNatClampNeg) then (if ¬ ((s_58.1 + 2) < 0 ∨ nL ≤ (s_58.1 + 2).toNatClampNeg) then (if ¬ ((s_58.1 + 3) < 0 ∨ nL ≤ (s_58.1 + 3).toNatClampNeg) then ((gL_bend s_58.2.2.2.2.2.2.1 s_58.2.2.2.2.2.2.2.1 s_58.2.2.2.2.2.2.2.2.1 (xs (s_58.1 + 1).toNatClampNeg) (xs (s_58.1 + 2).toNatClampNeg) (xs (s_58.1 + 3).toNatClampNeg)).bind fun x_239 => (if s_58.2.2.2.2.2.2.2.2.2.1 + 1 ≤ 1005400 ∧ s_58.2.2.2.2.2.2.2.2.2.2 + 6 ≤ 6079904 then (if ¬ ((s_58.1 + 1) < 0 ∨ nL ≤ (s_58.1 + 1).toNatClampNeg) then (if ¬ ((s_58.1 + 2) < 0 ∨ nL ≤ (s_58.1 + 2).toNatClampNeg) then (if ¬ ((s_58.1 + 3) < 0 ∨ nL ≤ (s_58.1 + 3).toNatClampNeg) then ((gX9w_bend s_58.2.1 s_58.2.2.1 s_58.2.2.2.1 s_58.2.2.2.2.1 s_58.2.2.2.2.2.1 (xs (s_58.1 + 1).toNatClampNeg) (xs (s_58.1 + 2).toNatClampNeg) (xs (s_58.1 + 3).toNatClampNeg)).bind fun x_248 => some (.inl (s_58.1 + 4, x_248.2.1, x_248.2.2.1, x_248.2.2.2.1, x_248.2.2.2.2.1, x_248.2.2.2.2.2, x_239.2.1, x_239.2.2.1, x_239.2.2.2, s_58.2.2.2.2.2.2.2.2.2.1 + 1, s_58.2.2.2.2.2.2.2.2.2.2 + 6))) else none) else none) else none) else none)) else none) else none) else none) else (if ((xs s_58.1.toNatClampNeg) &&& 31) = 10 then ((gL_check s_58.2.2.2.2.2.2.1 s_58.2.2.2.2.2.2.2.1 s_58.2.2.2.2.2.2.2.2.1).bind fun x_255 => (if s_58.2.2.2.2.2.2.2.2.2.1 + 1 ≤ 1005400 ∧ s_58.2.2.2.2.2.2.2.2.2.2 + 6 ≤ 6079904 then ((gX9w_check s_58.2.1 s_58.2.2.1 s_58.2.2.2.1 s_58.2.2.2.2.1 s_58.2.2.2.2.2.1).bind fun x_261 => some (.inl (s_58.1 + 4, x_261.2.1, x_261.2.2.1, x_261.2.2.2.1, x_261.2.2.2.2.1, x_261.2.2.2.2.2, x_255.2.1, x_255.2.2.1, x_255.2.2.2, s_58.2.2.2.2.2.2.2.2.2.1 + 1, s_58.2.2.2.2.2.2.2.2.2.2 + 6))) else none)) else (if ((xs s_58.1.toNatClampNeg) &&& 31) = 11 then (if ¬ ((s_58.1 + 1) < 0 ∨ nL ≤ (s_58.1 + 1).toNatClampNeg) then ((gL_mesh s_58.2.2.2.2.2.2.1 s_58.2.2.2.2.2.2.2.1 s_58.2.2.2.2.2.2.2.2.1 (xs (s_58.1 + 1).toNatClampNeg)).bind fun x_269 => (if s_58.2.2.2.2.2.2.2.2.2.1 + 1 ≤ 1005400 ∧ s_58.2.2.2.2.2.2.2.2.2.2 + 6 ≤ 6079904 then (if ¬ ((s_58.1 + 1) < 0 ∨ nL ≤ (s_58.1 + 1).toNatClampNeg) then ((gX9w_mesh s_58.2.1 s_58.2.2.1 s_58.2.2.2.1 s_58.2.2.2.2.1 s_58.2.2.2.2.2.1 (xs (s_58.1 + 1).toNatClampNeg)).bind fun x_276 => some (.inl (s_58.1 + 4, x_276.2.1, x_276.2.2.1, x_276.2.2.2.1, x_276.2.2.2.2.1, x_276.2.2.2.2.2, x_269.2.1, x_269.2.2.1, x_269.2.2.2, s_58.2.2.2.2.2.2.2.2.2.1 + 1, s_58.2.2.2.2.2.2.2.2.2.2 + 6))) else none) else none)) else none) else (if ((xs s_58.1.toNatClampNeg) &&& 31) = 12 then (if ¬ ((s_58.1 + 1) < 0 ∨ nL ≤ (s_58.1 + 1).toNatClampNeg) then (if ¬ ((s_58.1 + 2) < 0 ∨ nL ≤ (s_58.1 + 2).toNatClampNeg) then (if ¬ ((s_58.1 + 3) < 0 ∨ nL ≤ (s_58.1 + 3).toNatClampNeg) then ((gL_ofCell s_58.2.2.2.2.2.2.1 s_58.2.2.2.2.2.2.2.1 s_58.2.2.2.2.2.2.2.2.1 (xs (s_58.1 + 1).toNatClampNeg) (xs (s_58.1 + 2).toNatClampNeg) (xs (s_58.1 + 3).toNatClampNeg)).bind fun x_286 => (if s_58.2.2.2.2.2.2.2.2.2.1 + 1 ≤ 1005400 ∧ s_58.2.2.2.2.2.2.2.2.2.2 + 6 ≤ 6079904 then (if ¬ ((s_58.1 + 1) < 0 ∨ nL ≤ (s_58.1 + 1).toNatClampNeg) then (if ¬ ((s_58.1 + 2) < 0 ∨ nL ≤ (s_58.1 + 2).toNatClampNeg) then (if ¬ ((s_58.1 + 3) < 0 ∨ nL ≤ (s_58.1 + 3).toNatClampNeg) then ((gX9w_ofCell s_58.2.1 s_58.2.2.1 s_58.2.2.2.1 s_58.2.2.2.2.1 s_58.2.2.2.2.2.1 (xs (s_58.1 + 1).toNatClampNeg) (xs (s_58.1 + 2).toNatClampNeg) (xs (s_58.1 + 3).toNatClampNeg)).bind fun x_295 => some (.inl (s_58.1 + 4, x_295.2.1, x_295.2.2.1, x_295.2.2.2.1, x_295.2.2.2.2.1, x_295.2.2.2.2.2, x_286.2.1, x_286.2.2.1, x_286.2.2.2, s_58.2.2.2.2.2.2.2.2.2.1 + 1, s_58.2.2.2.2.2.2.2.2.2.2 + 6))) else none) else none) else none) else none)) else none) else none) else none) else (if ((xs s_58.1.toNatClampNeg) &&& 31) = 13 then (if ¬ ((s_58.1 + 1) < 0 ∨ nL ≤ (s_58.1 + 1).toNatClampNeg) then (if ¬ ((s_58.1 + 2) < 0 ∨ nL ≤ (s_58.1 + 2).toNatClampNeg) then ((gL_result s_58.2.2.2.2.2.2.1 s_58.2.2.2.2.2.2.2.1 s_58.2.2.2.2.2.2.2.2.1 (xs (s_58.1 + 1).toNatClampNeg) (xs (s_58.1 + 2).toNatClampNeg)).bind fun x_304 => (if s_58.2.2.2.2.2.2.2.2.2.1 + 1 ≤ 1005400 ∧ s_58.2.2.2.2.2.2.2.2.2.2 + 6 ≤ 6079904 then (if ¬ ((s_58.1 + 1) < 0 ∨ nL ≤ (s_58.1 + 1).toNatClampNeg) then (if ¬ ((s_58.1 + 2) < 0 ∨ nL ≤ (s_58.1 + 2).toNatClampNeg) then ((gX9w_result s_58.2.1 s_58.2.2.1 s_58.2.2.2.1 s_58.2.2.2.2.1 s_58.2.2.2.2.2.1 (xs (s_58.1 + 1).toNatClampNeg) (xs (s_58.1 + 2).toNatClampNeg)).bind fun x_312 => some (.inl (s_58.1 + 4, x_312.2.1, x_312.2.2.1, x_312.2.2.2.1, x_312.2.2.2.2.1, x_312.2.2.2.2.2, x_304.2.1, x_304.2.2.1, x_304.2.2.2, s_58.2.2.2.2.2.2.2.2.2.1 + 1, s_58.2.2.2.2.2.2.2.2.2.2 + 6))) else none) else none) else none)) else none) else none) else (if ((xs s_58.1.toNatClampNeg) &&& 31) = 14 then (if ¬ ((s_58.1 + 1) < 0 ∨ nL ≤ (s_58.1 + 1).toNatClampNeg) then (if ¬ ((s_58.1 + 2) < 0 ∨ nL ≤ (s_58.1 + 2).toNatClampNeg) then ((gL_plain s_58.2.2.2.2.2.2.1 s_58.2.2.2.2.2.2.2.1 s_58.2.2.2.2.2.2.2.2.1 (xs (s_58.1 + 1).toNatClampNeg) (xs (s_58.1 + 2).toNatClampNeg)).bind fun x_321 => (if s_58.2.2.2.2.2.2.2.2.2.1 + 1 ≤ 1005400 ∧ s_58.2.2.2.2.2.2.2.2.2.2 + 6 ≤ 6079904 then (if ¬ ((s_58.1 + 1) < 0 ∨ nL ≤ (s_58.1 + 1).toNatClampNeg) then (if ¬ ((s_58.1 + 2) < 0 ∨ nL ≤ (s_58.1 + 2).toNatClampNeg) then ((gX9w_plain s_58.2.1 s_58.2.2.1 s_58.2.2.2.1 s_58.2.2.2.2.1 s_58.2.2.2.2.2.1 (xs (s_58.1 + 1).toNatClampNeg) (xs (s_58.1 + 2).toNatClampNeg)).bind fun x_329 => some (.inl (s_58.1 + 4, x_329.2.1, x_329.2.2.1, x_329.2.2.2.1, x_329.2.2.2.2.1, x_329.2.2.2.2.2, x_321.2.1, x_321.2.2.1, x_321.2.2.2, s_58.2.2.2.2.2.2.2.2.2.1 + 1, s_58.2.2.2.2.2.2.2.2.2.2 + 6))) else none) else none) else none)) else none) else none) else (if ((xs s_58.1.toNatClampNeg) &&& 31) = 15 then (if ¬ ((s_58.1 + 1) < 0 ∨ nL ≤ (s_58.1 + 1).toNatClampNeg) then ((gL_row s_58.2.2.2.2.2.2.1 s_58.2.2.2.2.2.2.2.1 s_58.2.2.2.2.2.2.2.2.1 (xs (s_58.1 + 1).toNatClampNeg)).bind fun x_337 => (if s_58.2.2.2.2.2.2.2.2.2.1 + 4 ≤ 1005400 ∧ s_58.2.2.2.2.2.2.2.2.2.2 + 40 ≤ 6079904 then ybr x_337 (fun w_345 => (if ¬ ((s_58.1 + 1) < 0 ∨ nL ≤ (s_58.1 + 1).toNatClampNeg) then ((gX9w_row s_58.2.1 s_58.2.2.1 s_58.2.2.2.1 s_58.2.2.2.2.1 s_58.2.2.2.2.2.1 (xs (s_58.1 + 1).toNatClampNeg)).bind fun x_347 => (if s_58.2.2.2.2.2.2.2.2.2.1 + 4 + 4 ≤ 1005400 ∧ s_58.2.2.2.2.2.2.2.2.2.2 + 40 + 40 ≤ 6079904 then ybr x_347 (fun w_359 => ((gX9w_thrown w_359.1 w_359.2.1 w_359.2.2.1 w_359.2.2.2.1 w_359.2.2.2.2.1).bind fun x_360 => (if x_360.1 = w_345.1 then (if w_345.1 = 0 then ((fJ0_equals_9ea2d w_345.2.2.2.2.2 w_345.2.2.2.2.1 w_359.2.2.2.2.2.2 w_359.2.2.2.2.2.1).bind fun x_368 => (if x_368 = 0 then some (.inr (.inr 0)) else some (.inl (s_58.1 + 4, x_360.2.1, x_360.2.2.1, x_360.2.2.2.1, x_360.2.2.2.2.1, x_360.2.2.2.2.2, w_345.2.1, w_345.2.2.1, w_345.2.2.2.1, s_58.2.2.2.2.2.2.2.2.2.1 + 4 + 4, s_58.2.2.2.2.2.2.2.2.2.2 + 40 + 40)))) else some (.inl (s_58.1 + 4, x_360.2.1, x_360.2.2.1, x_360.2.2.2.1, x_360.2.2.2.2.1, x_360.2.2.2.2.2, w_345.2.1, w_345.2.2.1, w_345.2.2.2.1, s_58.2.2.2.2.2.2.2.2.2.1 + 4 + 4, s_58.2.2.2.2.2.2.2.2.2.2 + 40 + 40))) else some (.inr (.inr 0))))) (fun w_359 => ((gX9w_thrown w_359.1 w_359.2.1 w_359.2.2.1 w_359.2.2.2.1 w_359.2.2.2.2).bind fun x_375 => (if x_375.1 = w_345.1 then (if w_345.1 = 0 then none else some (.inl (s_58.1 + 4, x_375.2.1, x_375.2.2.1, x_375.2.2.2.1, x_375.2.2.2.2.1, x_375.2.2.2.2.2, w_345.2.1, w_345.2.2.1, w_345.2.2.2.1, s_58.2.2.2.2.2.2.2.2.2.1 + 4 + 4, s_58.2.2.2.2.2.2.2.2.2.2 + 40 + 40))) else some (.inr (.inr 0))))) else none)) else none)) (fun w_345 => (if ¬ ((s_58.1 + 1) < 0 ∨ nL ≤ (s_58.1 + 1).toNatClampNeg) then ((gX9w_row s_58.2.1 s_58.2.2.1 s_58.2.2.2.1 s_58.2.2.2.2.1 s_58.2.2.2.2.2.1 (xs (s_58.1 + 1).toNatClampNeg)).bind fun x_385 => (if s_58.2.2.2.2.2.2.2.2.2.1 + 4 + 4 ≤ 1005400 ∧ s_58.2.2.2.2.2.2.2.2.2.2 + 40 + 40 ≤ 6079904 then ybr x_385 (fun w_397 => ((gX9w_thrown w_397.1 w_397.2.1 w_397.2.2.1 w_397.2.2.2.1 w_397.2.2.2.2.1).bind fun x_398 => (if x_398.1 = w_345.1 then (if w_345.1 = 0 then none else some (.inl (s_58.1 + 4, x_398.2.1, x_398.2.2.1, x_398.2.2.2.1, x_398.2.2.2.2.1, x_398.2.2.2.2.2, w_345.2.1, w_345.2.2.1, w_345.2.2.2, s_58.2.2.2.2.2.2.2.2.2.1 + 4 + 4, s_58.2.2.2.2.2.2.2.2.2.2 + 40 + 40))) else some (.inr (.inr 0))))) (fun w_397 => ((gX9w_thrown w_397.1 w_397.2.1 w_397.2.2.1 w_397.2.2.2.1 w_397.2.2.2.2).bind fun x_407 => (if x_407.1 = w_345.1 then (if w_345.1 = 0 then none else some (.inl (s_58.1 + 4, x_407.2.1, x_407.2.2.1, x_407.2.2.2.1, x_407.2.2.2.2.1, x_407.2.2.2.2.2, w_345.2.1, w_345.2.2.1, w_345.2.2.2, s_58.2.2.2.2.2.2.2.2.2.1 + 4 + 4, s_58.2.2.2.2.2.2.2.2.2.2 + 40 + 40))) else some (.inr (.inr 0))))) else none)) else none)) else none)) else none) else (if ((xs s_58.1.toNatClampNeg) &&& 31) = 16 then (if ¬ ((s_58.1 + 1) < 0 ∨ nL ≤ (s_58.1 + 1).toNatClampNeg) then (if ¬ ((s_58.1 + 2) < 0 ∨ nL ≤ (s_58.1 + 2).toNatClampNeg) then ((gL_beats s_58.2.2.2.2.2.2.1 s_58.2.2.2.2.2.2.2.1 s_58.2.2.2.2.2.2.2.2.1 (xs (s_58.1 + 1).toNatClampNeg) (xs (s_58.1 + 2).toNatClampNeg)).bind fun x_419 => (if s_58.2.2.2.2.2.2.2.2.2.1 + 1 ≤ 1005400 ∧ s_58.2.2.2.2.2.2.2.2.2.2 + 6 ≤ 6079904 then (if ¬ ((s_58.1 + 1) < 0 ∨ nL ≤ (s_58.1 + 1).toNatClampNeg) then (if ¬ ((s_58.1 + 2) < 0 ∨ nL ≤ (s_58.1 + 2).toNatClampNeg) then ((gX9w_beats s_58.2.1 s_58.2.2.1 s_58.2.2.2.1 s_58.2.2.2.2.1 s_58.2.2.2.2.2.1 (xs (s_58.1 + 1).toNatClampNeg) (xs (s_58.1 + 2).toNatClampNeg)).bind fun x_427 => some (.inl (s_58.1 + 4, x_427.2.1, x_427.2.2.1, x_427.2.2.2.1, x_427.2.2.2.2.1, x_427.2.2.2.2.2, x_419.2.1, x_419.2.2.1, x_419.2.2.2, s_58.2.2.2.2.2.2.2.2.2.1 + 1, s_58.2.2.2.2.2.2.2.2.2.2 + 6))) else none) else none) else none)) else none) else none) else (if ((xs s_58.1.toNatClampNeg) &&& 31) = 17 then (if ¬ ((s_58.1 + 1) < 0 ∨ nL ≤ (s_58.1 + 1).toNatClampNeg) then ((gL_best s_58.2.2.2.2.2.2.1 s_58.2.2.2.2.2.2.2.1 s_58.2.2.2.2.2.2.2.2.1 (xs (s_58.1 + 1).toNatClampNeg)).bind fun x_435 => (if s_58.2.2.2.2.2.2.2.2.2.1 + 1 ≤ 1005400 ∧ s_58.2.2.2.2.2.2.2.2.2.2 + 6 ≤ 6079904 then (if ¬ ((s_58.1 + 1) < 0 ∨ nL ≤ (s_58.1 + 1).toNatClampNeg) then ((gX9w_best s_58.2.1 s_58.2.2.1 s_58.2.2.2.1 s_58.2.2.2.2.1 s_58.2.2.2.2.2.1 (xs (s_58.1 + 1).toNatClampNeg)).bind fun x_442 => (if s_58.2.2.2.2.2.2.2.2.2.1 + 1 + 30 ≤ 1005400 ∧ s_58.2.2.2.2.2.2.2.2.2.2 + 6 + 60 ≤ 6079904 then some (.inl (s_58.1 + 4, x_442.2.1, x_442.2.2.1, x_442.2.2.2.1, x_442.2.2.2.2.1, x_442.2.2.2.2.2, x_435.2.1, x_435.2.2.1, x_435.2.2.2, s_58.2.2.2.2.2.2.2.2.2.1 + 1 + 30, s_58.2.2.2.2.2.2.2.2.2.2 + 6 + 60)) else none)) else none) else none)) else none) else (if ((xs s_58.1.toNatClampNeg) &&& 31) = 18 then ((gX6_saved s_58.2.2.2.2.2.2.1 s_58.2.2.2.2.2.2.2.1).bind fun x_450 => ((gX9w_saved s_58.2.1 s_58.2.2.1 s_58.2.2.2.1 s_58.2.2.2.2.1 s_58.2.2.2.2.2.1).bind fun x_454 => (if s_58.2.2.2.2.2.2.2.2.2.1 + 60 ≤ 1005400 ∧ s_58.2.2.2.2.2.2.2.2.2.2 + 120 ≤ 6079904 then some (.inl (s_58.1 + 4, x_454.2.1, x_454.2.2.1, x_454.2.2.2.1, x_454.2.2.2.2.1, x_454.2.2.2.2.2, x_450.2.1, x_450.2.2, s_58.2.2.2.2.2.2.2.2.1, s_58.2.2.2.2.2.2.2.2.2.1 + 60, s_58.2.2.2.2.2.2.2.2.2.2 + 120)) else none))) else (if ((xs s_58.1.toNatClampNeg) &&& 31) = 19 then ((gX6_isSound s_58.2.2.2.2.2.2.1 s_58.2.2.2.2.2.2.2.1).bind fun x_462 => ((gX9w_isSound s_58.2.1 s_58.2.2.1 s_58.2.2.2.1 s_58.2.2.2.2.1 s_58.2.2.2.2.2.1).bind fun x_466 => (if s_58.2.2.2.2.2.2.2.2.2.1 + 30 ≤ 1005400 ∧ s_58.2.2.2.2.2.2.2.2.2.2 + 60 ≤ 6079904 then some (.inl (s_58.1 + 4, x_466.2.1, x_466.2.2.1, x_466.2.2.2.1, x_466.2.2.2.2.1, x_466.2.2.2.2.2, x_462.2.1, x_462.2.2, s_58.2.2.2.2.2.2.2.2.1, s_58.2.2.2.2.2.2.2.2.2.1 + 30, s_58.2.2.2.2.2.2.2.2.2.2 + 60)) else none))) else (if ((xs s_58.1.toNatClampNeg) &&& 31) = 20 then ((gX6_digest s_58.2.2.2.2.2.2.1 s_58.2.2.2.2.2.2.2.1).bind fun x_474 => ((gX9w_digest s_58.2.1 s_58.2.2.1 s_58.2.2.2.1 s_58.2.2.2.2.1 s_58.2.2.2.2.2.1).bind fun x_478 => (if s_58.2.2.2.2.2.2.2.2.2.1 + 300 ≤ 1005400 ∧ s_58.2.2.2.2.2.2.2.2.2.2 + 600 ≤ 6079904 then some (.inl (s_58.1 + 4, x_478.2.1, x_478.2.2.1, x_478.2.2.2.1, x_478.2.2.2.2.1, x_478.2.2.2.2.2, x_474.2.1, x_474.2.2, s_58.2.2.2.2.2.2.2.2.1, s_58.2.2.2.2.2.2.2.2.2.1 + 300, s_58.2.2.2.2.2.2.2.2.2.2 + 600)) else none))) else some (.inl (s_58.1 + 4, s_58.2.1, s_58.2.2.1, s_58.2.2.2.1, s_58.2.2.2.2.1, s_58.2.2.2.2.2.1, s_58.2.2.2.2.2.2.1, s_58.2.2.2.2.2.2.2.1, s_58.2.2.2.2.2.2.2.2.1, s_58.2.2.2.2.2.2.2.2.2.1, s_58.2.2.2.2.2.2.2.2.2.2))))))))))))))))))))))) else none)) else none)) yFuel (0, 0, MN0, ML0, MK0, MG0, CN0, CT0, 0, 0 + 1 + 22 + 1 + 47 + 1, 0 + 6 + 637 + 17 + 307 + 2)) (fun o => ∃ z, o = .inl z ∧ z.2.2.2.2.2.2.2.2.2.1 ≤ 400000 ∧ z.2.2.2.2.2.2.2.2.2.2 ≤ 2000000) := by
  refine Ok.for (fun (q : Nat) (s : Int32 × Nat × (Nat → Int32) × Int64 × (Nat → Nat) × (Nat → Nat → Nat → Int32) × (Nat → Int32) × (Nat → Nat → Int32) × Int64 × Nat × Nat) => s.1 = nI (4 * q) ∧ yR4 (2000 * q) s.2.2.2.2.2.2.1 s.2.2.2.2.2.2.2.1 s.2.1 s.2.2.1 s.2.2.2.1 s.2.2.2.2.1 s.2.2.2.2.2.1 ∧ s.2.2.2.2.2.2.2.2.2.1 ≤ 100 + 400 * q ∧ s.2.2.2.2.2.2.2.2.2.2 ≤ 2000 + 2000 * q) 0 (nL / 4) ⟨rfl, yR4_0, by decide, by decide⟩ (Nat.zero_le _) (by omega) (fun q s _ hq hI => ?_) (fun s hI => ?_)
  · obtain ⟨i, sh, m, L, k, G, n, t, on, cl, sl⟩ := s
    obtain ⟨hi, hR, hcl, hsl⟩ := hI
    have hi : i = nI (4 * q) := hi
    subst hi
    have hR : yR4 (2000 * q) n t sh m L k G := hR
    have hcl : cl ≤ 100 + 400 * q := hcl
    have hsl : sl ≤ 2000 + 2000 * q := hsl
    have hq4 : 4 * q + 4 ≤ nL := by omega
    have hi4 : nI (4 * q) + 4 = nI (4 * (q + 1)) := by
      rw [li4, nj_add]
      rfl
    have p1 : nI (4 * q) + 1 = nI (4 * q + 1) := nj_add _ 1
    have p2 : nI (4 * q) + 2 = nI (4 * q + 2) := nj_add _ 2
    have p3 : nI (4 * q) + 3 = nI (4 * q + 3) := nj_add _ 3
    have hx0 : ¬ (nI (4 * q) < 0 ∨ nL ≤ (nI (4 * q)).toNatClampNeg) := nj_in (by omega) (by omega)
    have hx1 : ¬ (nI (4 * q) + 1 < 0 ∨ nL ≤ (nI (4 * q) + 1).toNatClampNeg) := by
      rw [p1]
      exact nj_in (by omega) (by omega)
    have hx2 : ¬ (nI (4 * q) + 2 < 0 ∨ nL ≤ (nI (4 * q) + 2).toNatClampNeg) := by
      rw [p2]
      exact nj_in (by omega) (by omega)
    have hx3 : ¬ (nI (4 * q) + 3 < 0 ∨ nL ≤ (nI (4 * q) + 3).toNatClampNeg) := by
      rw [p3]
      exact nj_in (by omega) (by omega)
    dsimp only
    refine Ok.grd ⟨by omega, by omega⟩ ?_
    refine Ok.ite (fun z => absurd z ?_) (fun _ => ?_)
    · rw [yi_lt, yi_nI (by omega), show (4 : Int32) = nI 4 from rfl, yi_sub (by rw [yi_nI (by omega), yi_nI (by omega)]; omega) (by rw [yi_nI (by omega), yi_nI (by omega)]; omega), yi_nI (by omega), yi_nI (by omega)]
      omega
    refine Ok.grd hx0 ?_
    refine Ok.ite (fun _ => ?_) (fun _ => ?_)
    · refine Ok.grd hx1 ?_
      refine Ok.grd hx2 ?_
      refine Ok.grd hx3 ?_
      obtain ⟨x68, y68, ex68, ey68, hR68, ht68, ha68⟩ := s4_shape (L := L) (on := on) (i1 := (xs (nI (4 * q) + 1).toNatClampNeg)) (i2 := (xs (nI (4 * q) + 2).toNatClampNeg)) (i3 := (xs (nI (4 * q) + 3).toNatClampNeg)) hR
      refine Ok.to ex68 ?_
      refine Ok.grd ⟨by omega, by omega⟩ ?_
      refine Ok.grd hx1 ?_
      refine Ok.grd hx2 ?_
      refine Ok.grd hx3 ?_
      refine Ok.to ey68 ?_
      refine Ok.grd ⟨by omega, by omega⟩ ?_
      exact Ok.some ⟨hi4, (yR4_mono hR68 (by omega)), by dsimp only; omega, by dsimp only; omega⟩
    · refine Ok.ite (fun _ => ?_) (fun _ => ?_)
      · refine Ok.grd hx1 ?_
        refine Ok.grd hx2 ?_
        refine Ok.grd hx3 ?_
        obtain ⟨x88, y88, ex88, ey88, hR88, ht88, ha88⟩ := s4_left (L := L) (on := on) (i1 := (xs (nI (4 * q) + 1).toNatClampNeg)) (i2 := (xs (nI (4 * q) + 2).toNatClampNeg)) (i3 := (xs (nI (4 * q) + 3).toNatClampNeg)) hR
        refine Ok.to ex88 ?_
        refine Ok.grd ⟨by omega, by omega⟩ ?_
        refine Ok.grd hx1 ?_
        refine Ok.grd hx2 ?_
        refine Ok.grd hx3 ?_
        refine Ok.to ey88 ?_
        exact Ok.some ⟨hi4, (yR4_mono hR88 (by omega)), by dsimp only; omega, by dsimp only; omega⟩
      · refine Ok.ite (fun _ => ?_) (fun _ => ?_)
        · refine Ok.grd hx1 ?_
          refine Ok.grd hx2 ?_
          refine Ok.grd hx3 ?_
          obtain ⟨x107, y107, ex107, ey107, hR107, ht107, ha107⟩ := s4_top (L := L) (on := on) (i1 := (xs (nI (4 * q) + 1).toNatClampNeg)) (i2 := (xs (nI (4 * q) + 2).toNatClampNeg)) (i3 := (xs (nI (4 * q) + 3).toNatClampNeg)) hR
          refine Ok.to ex107 ?_
          refine Ok.grd ⟨by omega, by omega⟩ ?_
          refine Ok.grd hx1 ?_
          refine Ok.grd hx2 ?_
          refine Ok.grd hx3 ?_
          refine Ok.to ey107 ?_
          exact Ok.some ⟨hi4, (yR4_mono hR107 (by omega)), by dsimp only; omega, by dsimp only; omega⟩
        · refine Ok.ite (fun _ => ?_) (fun _ => ?_)
          · refine Ok.grd hx1 ?_
            obtain ⟨x124, y124, ex124, ey124, hR124, ht124, ha124⟩ := s4_kind (L := L) (on := on) (i1 := (xs (nI (4 * q) + 1).toNatClampNeg)) hR
            refine Ok.to ex124 ?_
            refine Ok.grd ⟨by omega, by omega⟩ ?_
            refine Ok.grd hx1 ?_
            refine Ok.to ey124 ?_
            exact Ok.some ⟨hi4, (yR4_mono hR124 (by omega)), by dsimp only; omega, by dsimp only; omega⟩
          · refine Ok.ite (fun _ => ?_) (fun _ => ?_)
            · refine Ok.grd hx1 ?_
              refine Ok.to (yb_iten _) ?_
              obtain ⟨x141, y141, ex141, ey141, hR141, ht141, ha141, hb141⟩ := s4_checked (L := L) (on := on) (i1 := (yb !decide ((xs (nI (4 * q) + 1).toNatClampNeg) = 0))) hR (yBb _)
              refine Ok.to ex141 ?_
              refine Ok.grd ⟨by omega, by omega⟩ ?_
              refine Ok.grd hx1 ?_
              refine Ok.to (yb_iten _) ?_
              refine Ok.to ey141 ?_
              exact Ok.some ⟨hi4, (yR4_mono hR141 (by omega)), by dsimp only; omega, by dsimp only; omega⟩
            · refine Ok.ite (fun _ => ?_) (fun _ => ?_)
              · refine Ok.grd hx1 ?_
                refine Ok.grd hx2 ?_
                refine Ok.grd hx3 ?_
                refine Ok.to (yb_iten _) ?_
                obtain ⟨x168, y168, ex168, ey168, hR168, ht168, ha168⟩ := s4_broken (L := L) (on := on) (i1 := (xs (nI (4 * q) + 1).toNatClampNeg)) (i2 := (xs (nI (4 * q) + 2).toNatClampNeg)) (isb := (yb !decide ((xs (nI (4 * q) + 3).toNatClampNeg) = 0))) hR (yBb _)
                refine Ok.to ex168 ?_
                refine Ok.grd ⟨by omega, by omega⟩ ?_
                refine Ok.grd hx1 ?_
                refine Ok.grd hx2 ?_
                refine Ok.grd hx3 ?_
                refine Ok.to (yb_iten _) ?_
                refine Ok.to ey168 ?_
                exact Ok.some ⟨hi4, (yR4_mono hR168 (by omega)), by dsimp only; omega, by dsimp only; omega⟩
              · refine Ok.ite (fun _ => ?_) (fun _ => ?_)
                · obtain ⟨x192, y192, ex192, ey192, hR192, ht192, ha192⟩ := s4_test (L := L) (on := on)  hR
                  refine Ok.to ex192 ?_
                  refine Ok.grd ⟨by omega, by omega⟩ ?_
                  refine Ok.to ey192 ?_
                  refine Ok.grd ⟨by omega, by omega⟩ ?_
                  exact Ok.some ⟨hi4, (yR4_mono hR192 (by omega)), by dsimp only; omega, by dsimp only; omega⟩
                · refine Ok.ite (fun _ => ?_) (fun _ => ?_)
                  · obtain ⟨x206, y206, ex206, ey206, hR206, ht206, ha206⟩ := s4_start (L := L) (on := on)  hR
                    refine Ok.to ex206 ?_
                    refine Ok.grd ⟨by omega, by omega⟩ ?_
                    refine Ok.to ey206 ?_
                    refine Ok.grd ⟨by omega, by omega⟩ ?_
                    exact Ok.some ⟨hi4, (yR4_mono hR206 (by omega)), by dsimp only; omega, by dsimp only; omega⟩
                  · refine Ok.ite (fun _ => ?_) (fun _ => ?_)
                    · refine Ok.grd hx1 ?_
                      obtain ⟨x221, y221, ex221, ey221, hR221, ht221, ha221⟩ := s4_beat (L := L) (on := on) (i1 := (xs (nI (4 * q) + 1).toNatClampNeg)) hR
                      refine Ok.to ex221 ?_
                      refine Ok.grd ⟨by omega, by omega⟩ ?_
                      refine Ok.grd hx1 ?_
                      refine Ok.to ey221 ?_
                      refine Ok.grd ⟨by omega, by omega⟩ ?_
                      exact Ok.some ⟨hi4, (yR4_mono hR221 (by omega)), by dsimp only; omega, by dsimp only; omega⟩
                    · refine Ok.ite (fun _ => ?_) (fun _ => ?_)
                      · refine Ok.grd hx1 ?_
                        refine Ok.grd hx2 ?_
                        refine Ok.grd hx3 ?_
                        obtain ⟨x239, y239, ex239, ey239, hR239, ht239, ha239⟩ := s4_bend (L := L) (on := on) (i1 := (xs (nI (4 * q) + 1).toNatClampNeg)) (i2 := (xs (nI (4 * q) + 2).toNatClampNeg)) (i3 := (xs (nI (4 * q) + 3).toNatClampNeg)) hR
                        refine Ok.to ex239 ?_
                        refine Ok.grd ⟨by omega, by omega⟩ ?_
                        refine Ok.grd hx1 ?_
                        refine Ok.grd hx2 ?_
                        refine Ok.grd hx3 ?_
                        refine Ok.to ey239 ?_
                        exact Ok.some ⟨hi4, (yR4_mono hR239 (by omega)), by dsimp only; omega, by dsimp only; omega⟩
                      · refine Ok.ite (fun _ => ?_) (fun _ => ?_)
                        · obtain ⟨x255, y255, ex255, ey255, hR255, ht255, ha255⟩ := s4_check (L := L) (on := on)  hR
                          refine Ok.to ex255 ?_
                          refine Ok.grd ⟨by omega, by omega⟩ ?_
                          refine Ok.to ey255 ?_
                          exact Ok.some ⟨hi4, (yR4_mono hR255 (by omega)), by dsimp only; omega, by dsimp only; omega⟩
                        · refine Ok.ite (fun _ => ?_) (fun _ => ?_)
                          · refine Ok.grd hx1 ?_
                            obtain ⟨x269, y269, ex269, ey269, hR269, ht269, ha269⟩ := s4_mesh (L := L) (on := on) (i1 := (xs (nI (4 * q) + 1).toNatClampNeg)) hR
                            refine Ok.to ex269 ?_
                            refine Ok.grd ⟨by omega, by omega⟩ ?_
                            refine Ok.grd hx1 ?_
                            refine Ok.to ey269 ?_
                            exact Ok.some ⟨hi4, (yR4_mono hR269 (by omega)), by dsimp only; omega, by dsimp only; omega⟩
                          · refine Ok.ite (fun _ => ?_) (fun _ => ?_)
                            · refine Ok.grd hx1 ?_
                              refine Ok.grd hx2 ?_
                              refine Ok.grd hx3 ?_
                              obtain ⟨x286, y286, ex286, ey286, hR286, ht286, ha286⟩ := s4_ofCell (L := L) (on := on) (i1 := (xs (nI (4 * q) + 1).toNatClampNeg)) (i2 := (xs (nI (4 * q) + 2).toNatClampNeg)) (i3 := (xs (nI (4 * q) + 3).toNatClampNeg)) hR
                              refine Ok.to ex286 ?_
                              refine Ok.grd ⟨by omega, by omega⟩ ?_
                              refine Ok.grd hx1 ?_
                              refine Ok.grd hx2 ?_
                              refine Ok.grd hx3 ?_
                              refine Ok.to ey286 ?_
                              exact Ok.some ⟨hi4, (yR4_mono hR286 (by omega)), by dsimp only; omega, by dsimp only; omega⟩
                            · refine Ok.ite (fun _ => ?_) (fun _ => ?_)
                              · refine Ok.grd hx1 ?_
                                refine Ok.grd hx2 ?_
                                obtain ⟨x304, y304, ex304, ey304, hR304, ht304, ha304⟩ := s4_result (L := L) (on := on) (i1 := (xs (nI (4 * q) + 1).toNatClampNeg)) (i2 := (xs (nI (4 * q) + 2).toNatClampNeg)) hR
                                refine Ok.to ex304 ?_
                                refine Ok.grd ⟨by omega, by omega⟩ ?_
                                refine Ok.grd hx1 ?_
                                refine Ok.grd hx2 ?_
                                refine Ok.to ey304 ?_
                                exact Ok.some ⟨hi4, (yR4_mono hR304 (by omega)), by dsimp only; omega, by dsimp only; omega⟩
                              · refine Ok.ite (fun _ => ?_) (fun _ => ?_)
                                · refine Ok.grd hx1 ?_
                                  refine Ok.grd hx2 ?_
                                  obtain ⟨x321, y321, ex321, ey321, hR321, ht321, ha321⟩ := s4_plain (L := L) (on := on) (i1 := (xs (nI (4 * q) + 1).toNatClampNeg)) (i2 := (xs (nI (4 * q) + 2).toNatClampNeg)) hR
                                  refine Ok.to ex321 ?_
                                  refine Ok.grd ⟨by omega, by omega⟩ ?_
                                  refine Ok.grd hx1 ?_
                                  refine Ok.grd hx2 ?_
                                  refine Ok.to ey321 ?_
                                  exact Ok.some ⟨hi4, (yR4_mono hR321 (by omega)), by dsimp only; omega, by dsimp only; omega⟩
                                · refine Ok.ite (fun _ => ?_) (fun _ => ?_)
                                  · refine Ok.grd hx1 ?_
                                    rcases s4_row (L := L) (on := on) (i1 := (xs (nI (4 * q) + 1).toNatClampNeg)) hR with ⟨f, ex, ey, hR0⟩ | ⟨ex, ey, hR0⟩
                                    · refine Ok.to ex ?_
                                      refine Ok.grd ⟨by omega, by omega⟩ ?_
                                      rw [ybr_il]
                                      refine Ok.grd hx1 ?_
                                      refine Ok.to ey ?_
                                      refine Ok.grd ⟨by omega, by omega⟩ ?_
                                      rw [ybr_il]
                                      refine Ok.to e_thrown ?_
                                      refine Ok.ite (fun _ => ?_) (fun z => absurd rfl z)
                                      refine Ok.ite (fun _ => ?_) (fun z => absurd rfl z)
                                      refine Ok.to e_equals ?_
                                      refine Ok.ite (fun z => absurd z (by decide)) (fun _ => ?_)
                                      exact Ok.some ⟨hi4, (yR4_mono (yR4_m hR0) (by omega)), by dsimp only; omega, by dsimp only; omega⟩
                                    · refine Ok.to ex ?_
                                      refine Ok.grd ⟨by omega, by omega⟩ ?_
                                      rw [ybr_ir]
                                      refine Ok.grd hx1 ?_
                                      refine Ok.to ey ?_
                                      refine Ok.grd ⟨by omega, by omega⟩ ?_
                                      rw [ybr_ir]
                                      refine Ok.to e_thrown ?_
                                      refine Ok.ite (fun _ => ?_) (fun z => absurd rfl z)
                                      refine Ok.ite (fun z => absurd (show (1 : Int32) = 0 from z) (by decide)) (fun _ => ?_)
                                      exact Ok.some ⟨hi4, (yR4_mono (yR4_m hR0) (by omega)), by dsimp only; omega, by dsimp only; omega⟩
                                  · refine Ok.ite (fun _ => ?_) (fun _ => ?_)
                                    · refine Ok.grd hx1 ?_
                                      refine Ok.grd hx2 ?_
                                      obtain ⟨x419, y419, ex419, ey419, hR419, ht419, ha419⟩ := s4_beats (L := L) (on := on) (i1 := (xs (nI (4 * q) + 1).toNatClampNeg)) (i2 := (xs (nI (4 * q) + 2).toNatClampNeg)) hR
                                      refine Ok.to ex419 ?_
                                      refine Ok.grd ⟨by omega, by omega⟩ ?_
                                      refine Ok.grd hx1 ?_
                                      refine Ok.grd hx2 ?_
                                      refine Ok.to ey419 ?_
                                      exact Ok.some ⟨hi4, (yR4_mono hR419 (by omega)), by dsimp only; omega, by dsimp only; omega⟩
                                    · refine Ok.ite (fun _ => ?_) (fun _ => ?_)
                                      · refine Ok.grd hx1 ?_
                                        obtain ⟨x435, y435, ex435, ey435, hR435, ht435, ha435⟩ := s4_best (L := L) (on := on) (i1 := (xs (nI (4 * q) + 1).toNatClampNeg)) hR
                                        refine Ok.to ex435 ?_
                                        refine Ok.grd ⟨by omega, by omega⟩ ?_
                                        refine Ok.grd hx1 ?_
                                        refine Ok.to ey435 ?_
                                        refine Ok.grd ⟨by omega, by omega⟩ ?_
                                        exact Ok.some ⟨hi4, (yR4_mono hR435 (by omega)), by dsimp only; omega, by dsimp only; omega⟩
                                      · refine Ok.ite (fun _ => ?_) (fun _ => ?_)
                                        · obtain ⟨x450, y450, ex450, ey450, hR450⟩ := s4_saved (L := L)  hR
                                          refine Ok.to ex450 ?_
                                          refine Ok.to ey450 ?_
                                          refine Ok.grd ⟨by omega, by omega⟩ ?_
                                          exact Ok.some ⟨hi4, (yR4_mono hR450 (by omega)), by dsimp only; omega, by dsimp only; omega⟩
                                        · refine Ok.ite (fun _ => ?_) (fun _ => ?_)
                                          · obtain ⟨x462, y462, ex462, ey462, hR462⟩ := s4_isSound (L := L)  hR
                                            refine Ok.to ex462 ?_
                                            refine Ok.to ey462 ?_
                                            refine Ok.grd ⟨by omega, by omega⟩ ?_
                                            exact Ok.some ⟨hi4, (yR4_mono hR462 (by omega)), by dsimp only; omega, by dsimp only; omega⟩
                                          · refine Ok.ite (fun _ => ?_) (fun _ => ?_)
                                            · obtain ⟨x474, y474, ex474, ey474, hR474⟩ := s4_digest (L := L)  hR
                                              refine Ok.to ex474 ?_
                                              refine Ok.to ey474 ?_
                                              refine Ok.grd ⟨by omega, by omega⟩ ?_
                                              exact Ok.some ⟨hi4, (yR4_mono hR474 (by omega)), by dsimp only; omega, by dsimp only; omega⟩
                                            · exact Ok.some ⟨hi4, (yR4_mono hR (by omega)), by dsimp only; omega, by dsimp only; omega⟩
  · obtain ⟨i, sh, m, L, k, G, n, t, on, cl, sl⟩ := s
    obtain ⟨hi, hR, hcl, hsl⟩ := hI
    have hi : i = nI (4 * (nL / 4)) := hi
    subst hi
    have hcl : cl ≤ 100 + 400 * (nL / 4) := hcl
    have hsl : sl ≤ 2000 + 2000 * (nL / 4) := hsl
    dsimp only
    refine Ok.grd ⟨by omega, by omega⟩ ?_
    refine Ok.ite (fun _ => ?_) (fun z => absurd ?_ z)
    · exact Ok.some ⟨_, rfl, by dsimp only; omega, by dsimp only; omega⟩
    · rw [yi_lt, yi_nI (by omega), show (4 : Int32) = nI 4 from rfl, yi_sub (by rw [yi_nI (by omega), yi_nI (by omega)]; omega) (by rw [yi_nI (by omega), yi_nI (by omega)]; omega), yi_nI (by omega), yi_nI (by omega)]
      omega
theorem yX6 : ∃ v, fX6_init = some v := by
  cases e : fX6_init with
  | none => exact absurd e (by decide +kernel)
  | some v => exact ⟨v, rfl⟩
theorem pure_law {L : Nat} {xs : Nat → Int32} (hL : L ≤ 2048) : fL_law L xs = some 1 := by
  obtain ⟨b, hb, z, rfl, h1, h2⟩ := ylaw_loop (xs := xs) hL
  obtain ⟨x, hx, hp⟩ := o_X9_lay_0 (i1 := 2) (i2 := 2) (i3 := 2) ⟨by decide, by decide⟩ ⟨by decide, by decide⟩ ⟨by decide, by decide⟩
  have e9 : ∃ v, fX9_init = some v := by
    unfold fX9_init
    exact ⟨_, bto (show fX8_init = some () from rfl) (bto hx rfl)⟩
  have e6 : ∃ v, fX6_init = some v := yX6
  obtain ⟨v9, e9⟩ := e9
  obtain ⟨v6, e6⟩ := e6
  unfold fL_law
  refine bto e6 ?_
  refine bto e9 ?_
  refine bto (show fX7_init = some () from rfl) ?_
  refine bto hb ?_
  rw [ybr_il]
  exact if_pos ⟨by omega, by omega⟩
