/-! ===== the law ===== -/
theorem e_thrown {sh : Nat} {m : Nat → Int32} {L : Int64} {k : Nat → Nat} {G : Nat → Nat → Nat → Int32} : gX9w_thrown sh m L k G = some (m 0, min sh 2, m, L, k, G) := by
  match sh with
  | 0 => rfl
  | 1 => rfl
  | z + 2 =>
    have e : min (z + 2) 2 = 2 := by omega
    rw [e]
    rfl
theorem yR2_0 : yR2 CN0 CT0 0 MN0 MK0 MG0 := by
  refine ⟨by decide, 2, 2, 2, 0, 0, ⟨⟨⟨by decide, by decide⟩, ⟨by decide, by decide⟩, ⟨by decide, by decide⟩, by decide, by decide⟩, ?_, fun i j => Or.inl rfl, fun i j => Or.inl rfl, by decide, by decide, fun z => absurd z (by decide)⟩, ⟨rfl, rfl, rfl, rfl, rfl⟩, ?_, ?_⟩
  · exact ⟨by decide +kernel, by decide +kernel, by decide +kernel, by decide +kernel, by decide +kernel, by decide +kernel, by decide +kernel, by decide +kernel, by decide +kernel⟩
  · intro i j _ _
    obtain ⟨x, hx, hp⟩ := o_X9_lay_0 (i1 := 2) (i2 := 2) (i3 := 2) ⟨by decide, by decide⟩ ⟨by decide, by decide⟩ ⟨by decide, by decide⟩
    have e : fX9_init = some (0, 0, 0, 0, 0, 0, 0, 0, 0, 2, 2, 2, 0, 0, 2, 2, yZ, 2, 2, yZ) := by
      unfold fX9_init
      refine bto (show fX8_init = some () from rfl) ?_
      refine bto hx ?_
      rw [hp]
      rfl
    have e2 := iX9_init e
    show (0 : Int32) = rX9_init.2.2.2.2.2.2.2.2.2.2.2.2.2.2.2.2.1 i j
    rw [e2]
    rfl
  · intro i j _ _
    obtain ⟨x, hx, hp⟩ := o_X9_lay_0 (i1 := 2) (i2 := 2) (i3 := 2) ⟨by decide, by decide⟩ ⟨by decide, by decide⟩ ⟨by decide, by decide⟩
    have e : fX9_init = some (0, 0, 0, 0, 0, 0, 0, 0, 0, 2, 2, 2, 0, 0, 2, 2, yZ, 2, 2, yZ) := by
      unfold fX9_init
      refine bto (show fX8_init = some () from rfl) ?_
      refine bto hx ?_
      rw [hp]
      rfl
    have e2 := iX9_init e
    show (0 : Int32) = rX9_init.2.2.2.2.2.2.2.2.2.2.2.2.2.2.2.2.2.2.2 i j
    rw [e2]
    rfl
theorem yBb (b : Bool) : Bo (yb b) := by cases b <;> decide
set_option maxHeartbeats 4000000 in
theorem ylaw_loop {nL : Nat} {xs : Nat → Int32} (hL : nL ≤ 2048) : Ok (wl (S := Int32 × Nat × (Nat → Int32) × Int64 × (Nat → Nat) × (Nat → Nat → Nat → Int32) × (Nat → Int32) × (Nat → Nat → Int32) × Int64 × Nat × Nat) (B := (Int32 × Nat × (Nat → Int32) × Int64 × (Nat → Nat) × (Nat → Nat → Nat → Int32) × (Nat → Int32) × (Nat → Nat → Int32) × Int64 × Nat × Nat) ⊕ Int32) (fun s_58 => (if s_58.2.2.2.2.2.2.2.2.2.1 ≤ 1006402 ∧ s_58.2.2.2.2.2.2.2.2.2.2 ≤ 6076897 then (if ((nI nL) - 4) < s_58.1 then some (.inr (.inl (s_58.1, s_58.2.1, s_58.2.2.1, s_58.2.2.2.1, s_58.2.2.2.2.1, s_58.2.2.2.2.2.1, s_58.2.2.2.2.2.2.1, s_58.2.2.2.2.2.2.2.1, s_58.2.2.2.2.2.2.2.2.1, s_58.2.2.2.2.2.2.2.2.2.1, s_58.2.2.2.2.2.2.2.2.2.2))) else (if ¬ (s_58.1 < 0 ∨ nL ≤ s_58.1.toNatClampNeg) then (if ((xs s_58.1.toNatClampNeg) &&& 31) = 0 then (if ¬ ((s_58.1 + 1) < 0 ∨ nL ≤ (s_58.1 + 1).toNatClampNeg) then (if ¬ ((s_58.1 + 2) < 0 ∨ nL ≤ (s_58.1 + 2).toNatClampNeg) then (if ¬ ((s_58.1 + 3) < 0 ∨ nL ≤ (s_58.1 + 3).toNatClampNeg) then ((gL_shape s_58.2.2.2.2.2.2.1 s_58.2.2.2.2.2.2.2.1 s_58.2.2.2.2.2.2.2.2.1 (xs (s_58.1 + 1).toNatClampNeg) (xs (s_58.1 + 2).toNatClampNeg) (xs (s_58.1 + 3).toNatClampNeg)).bind fun x_68 => (if s_58.2.2.2.2.2.2.2.2.2.1 + 1 ≤ 1006402 ∧ s_58.2.2.2.2.2.2.2.2.2.2 + 6 ≤ 6076897 then (if ¬ ((s_58.1 + 1) < 0 ∨ nL ≤ (s_58.1 + 1).toNatClampNeg) then (if ¬ ((s_58.1 + 2) < 0 ∨ nL ≤ (s_58.1 + 2).toNatClampNeg) then (if ¬ ((s_58.1 + 3) < 0 ∨ nL ≤ (s_58.1 + 3).toNatClampNeg) then ((gX9w_shape s_58.2.1 s_58.2.2.1 s_58.2.2.2.1 s_58.2.2.2.2.1 s_58.2.2.2.2.2.1 (xs (s_58.1 + 1).toNatClampNeg) (xs (s_58.1 + 2).toNatClampNeg) (xs (s_58.1 + 3).toNatClampNeg)).bind fun x_77 => (if s_58.2.2.2.2.2.2.2.2.2.1 + 1 + 20 ≤ 1006402 ∧ s_58.2.2.2.2.2.2.2.2.2.2 + 6 + 180 ≤ 6076897 then some (.inl (s_58.1 + 4, x_77.2.1, x_77.2.2.1, x_77.2.2.2.1, x_77.2.2.2.2.1, x_77.2.2.2.2.2, x_68.2.1, x_68.2.2.1, x_68.2.2.2, s_58.2.2.2.2.2.2.2.2.2.1 + 1 + 20, s_58.2.2.2.2.2.2.2.2.2.2 + 6 + 180)) else none)) else none) else none) else none) else none)) else none) else none) else none) else (if ((xs s_58.1.toNatClampNeg) &&& 31) = 1 then (if ¬ ((s_58.1 + 1) < 0 ∨ nL ≤ (s_58.1 + 1).toNatClampNeg) then (if ¬ ((s_58.1 + 2) < 0 ∨ nL ≤ (s_58.1 + 2).toNatClampNeg) then (if ¬ ((s_58.1 + 3) < 0 ∨ nL ≤ (s_58.1 + 3).toNatClampNeg) then ((gL_left s_58.2.2.2.2.2.2.1 s_58.2.2.2.2.2.2.2.1 s_58.2.2.2.2.2.2.2.2.1 (xs (s_58.1 + 1).toNatClampNeg) (xs (s_58.1 + 2).toNatClampNeg) (xs (s_58.1 + 3).toNatClampNeg)).bind fun x_88 => (if s_58.2.2.2.2.2.2.2.2.2.1 + 1 ≤ 1006402 ∧ s_58.2.2.2.2.2.2.2.2.2.2 + 6 ≤ 6076897 then (if ¬ ((s_58.1 + 1) < 0 ∨ nL ≤ (s_58.1 + 1).toNatClampNeg) then (if ¬ ((s_58.1 + 2) < 0 ∨ nL ≤ (s_58.1 + 2).toNatClampNeg) then (if ¬ ((s_58.1 + 3) < 0 ∨ nL ≤ (s_58.1 + 3).toNatClampNeg) then ((gX9w_left s_58.2.1 s_58.2.2.1 s_58.2.2.2.1 s_58.2.2.2.2.1 s_58.2.2.2.2.2.1 (xs (s_58.1 + 1).toNatClampNeg) (xs (s_58.1 + 2).toNatClampNeg) (xs (s_58.1 + 3).toNatClampNeg)).bind fun x_97 => some (.inl (s_58.1 + 4, x_97.2.1, x_97.2.2.1, x_97.2.2.2.1, x_97.2.2.2.2.1, x_97.2.2.2.2.2, x_88.2.1, x_88.2.2.1, x_88.2.2.2, s_58.2.2.2.2.2.2.2.2.2.1 + 1, s_58.2.2.2.2.2.2.2.2.2.2 + 6))) else none) else none) else none) else none)) else none) else none) else none) else (if ((xs s_58.1.toNatClampNeg) &&& 31) = 2 then (if ¬ ((s_58.1 + 1) < 0 ∨ nL ≤ (s_58.1 + 1).toNatClampNeg) then (if ¬ ((s_58.1 + 2) < 0 ∨ nL ≤ (s_58.1 + 2).toNatClampNeg) then (if ¬ ((s_58.1 + 3) < 0 ∨ nL ≤ (s_58.1 + 3).toNatClampNeg) then ((gL_top s_58.2.2.2.2.2.2.1 s_58.2.2.2.2.2.2.2.1 s_58.2.2.2.2.2.2.2.2.1 (xs (s_58.1 + 1).toNatClampNeg) (xs (s_58.1 + 2).toNatClampNeg) (xs (s_58.1 + 3).toNatClampNeg)).bind fun x_107 => (if s_58.2.2.2.2.2.2.2.2.2.1 + 1 ≤ 1006402 ∧ s_58.2.2.2.2.2.2.2.2.2.2 + 6 ≤ 6076897 then (if ¬ ((s_58.1 + 1) < 0 ∨ nL ≤ (s_58.1 + 1).toNatClampNeg) then (if ¬ ((s_58.1 + 2) < 0 ∨ nL ≤ (s_58.1 + 2).toNatClampNeg) then (if ¬ ((s_58.1 + 3) < 0 ∨ nL ≤ (s_58.1 + 3).toNatClampNeg) then ((gX9w_top s_58.2.1 s_58.2.2.1 s_58.2.2.2.1 s_58.2.2.2.2.1 s_58.2.2.2.2.2.1 (xs (s_58.1 + 1).toNatClampNeg) (xs (s_58.1 + 2).toNatClampNeg) (xs (s_58.1 + 3).toNatClampNeg)).bind fun x_116 => some (.inl (s_58.1 + 4, x_116.2.1, x_116.2.2.1, x_116.2.2.2.1, x_116.2.2.2.2.1, x_116.2.2.2.2.2, x_107.2.1, x_107.2.2.1, x_107.2.2.2, s_58.2.2.2.2.2.2.2.2.2.1 + 1, s_58.2.2.2.2.2.2.2.2.2.2 + 6))) else none) else none) else none) else none)) else none) else none) else none) else (if ((xs s_58.1.toNatClampNeg) &&& 31) = 3 then (if ¬ ((s_58.1 + 1) < 0 ∨ nL ≤ (s_58.1 + 1).toNatClampNeg) then ((gL_kind s_58.2.2.2.2.2.2.1 s_58.2.2.2.2.2.2.2.1 s_58.2.2.2.2.2.2.2.2.1 (xs (s_58.1 + 1).toNatClampNeg)).bind fun x_124 => (if s_58.2.2.2.2.2.2.2.2.2.1 + 1 ≤ 1006402 ∧ s_58.2.2.2.2.2.2.2.2.2.2 + 6 ≤ 6076897 then (if ¬ ((s_58.1 + 1) < 0 ∨ nL ≤ (s_58.1 + 1).toNatClampNeg) then ((gX9w_kind s_58.2.1 s_58.2.2.1 s_58.2.2.2.1 s_58.2.2.2.2.1 s_58.2.2.2.2.2.1 (xs (s_58.1 + 1).toNatClampNeg)).bind fun x_131 => some (.inl (s_58.1 + 4, x_131.2.1, x_131.2.2.1, x_131.2.2.2.1, x_131.2.2.2.2.1, x_131.2.2.2.2.2, x_124.2.1, x_124.2.2.1, x_124.2.2.2, s_58.2.2.2.2.2.2.2.2.2.1 + 1, s_58.2.2.2.2.2.2.2.2.2.2 + 6))) else none) else none)) else none) else (if ((xs s_58.1.toNatClampNeg) &&& 31) = 4 then (if ¬ ((s_58.1 + 1) < 0 ∨ nL ≤ (s_58.1 + 1).toNatClampNeg) then ((((if (xs (s_58.1 + 1).toNatClampNeg) = 0 then some 0 else some 1) : Option (Int32))).bind fun r_140 => ((gL_checked s_58.2.2.2.2.2.2.1 s_58.2.2.2.2.2.2.2.1 s_58.2.2.2.2.2.2.2.2.1 r_140).bind fun x_141 => (if s_58.2.2.2.2.2.2.2.2.2.1 + 1 ≤ 1006402 ∧ s_58.2.2.2.2.2.2.2.2.2.2 + 6 ≤ 6076897 then (if ¬ ((s_58.1 + 1) < 0 ∨ nL ≤ (s_58.1 + 1).toNatClampNeg) then ((((if (xs (s_58.1 + 1).toNatClampNeg) = 0 then some 0 else some 1) : Option (Int32))).bind fun r_149 => ((gX9w_checked s_58.2.1 s_58.2.2.1 s_58.2.2.2.1 s_58.2.2.2.2.1 s_58.2.2.2.2.2.1 r_149).bind fun x_150 => ((gX9w_thrown x_150.2.1 x_150.2.2.1 x_150.2.2.2.1 x_150.2.2.2.2.1 x_150.2.2.2.2.2).bind fun x_156 => (if x_156.1 = x_141.1 then (if x_141.1 = 0 then ((((if x_150.1 = 0 then some 0 else some 1) : Option (Int64))).bind fun r_165 => (if (lg_cmp x_141.2.2.2 r_165) = 0 then some (.inl (s_58.1 + 4, x_156.2.1, x_156.2.2.1, x_156.2.2.2.1, x_156.2.2.2.2.1, x_156.2.2.2.2.2, x_141.2.1, x_141.2.2.1, x_141.2.2.2, s_58.2.2.2.2.2.2.2.2.2.1 + 1, s_58.2.2.2.2.2.2.2.2.2.2 + 6)) else some (.inr (.inr 0)))) else some (.inl (s_58.1 + 4, x_156.2.1, x_156.2.2.1, x_156.2.2.2.1, x_156.2.2.2.2.1, x_156.2.2.2.2.2, x_141.2.1, x_141.2.2.1, x_141.2.2.2, s_58.2.2.2.2.2.2.2.2.2.1 + 1, s_58.2.2.2.2.2.2.2.2.2.2 + 6))) else some (.inr (.inr 0)))))) else none) else none))) else none) else (if ((xs s_58.1.toNatClampNeg) &&& 31) = 5 then (if ¬ ((s_58.1 + 1) < 0 ∨ nL ≤ (s_58.1 + 1).toNatClampNeg) then (if ¬ ((s_58.1 + 2) < 0 ∨ nL ≤ (s_58.1 + 2).toNatClampNeg) then (if ¬ ((s_58.1 + 3) < 0 ∨ nL ≤ (s_58.1 + 3).toNatClampNeg) then ((((if (xs (s_58.1 + 3).toNatClampNeg) = 0 then some 0 else some 1) : Option (Int32))).bind fun r_183 => ((gL_broken s_58.2.2.2.2.2.2.1 s_58.2.2.2.2.2.2.2.1 s_58.2.2.2.2.2.2.2.2.1 (xs (s_58.1 + 1).toNatClampNeg) (xs (s_58.1 + 2).toNatClampNeg) r_183).bind fun x_184 => (if s_58.2.2.2.2.2.2.2.2.2.1 + 1 ≤ 1006402 ∧ s_58.2.2.2.2.2.2.2.2.2.2 + 6 ≤ 6076897 then (if ¬ ((s_58.1 + 1) < 0 ∨ nL ≤ (s_58.1 + 1).toNatClampNeg) then (if ¬ ((s_58.1 + 2) < 0 ∨ nL ≤ (s_58.1 + 2).toNatClampNeg) then (if ¬ ((s_58.1 + 3) < 0 ∨ nL ≤ (s_58.1 + 3).toNatClampNeg) then ((((if (xs (s_58.1 + 3).toNatClampNeg) = 0 then some 0 else some 1) : Option (Int32))).bind fun r_194 => ((gX9w_broken s_58.2.1 s_58.2.2.1 s_58.2.2.2.1 s_58.2.2.2.2.1 s_58.2.2.2.2.2.1 (xs (s_58.1 + 1).toNatClampNeg) (xs (s_58.1 + 2).toNatClampNeg) r_194).bind fun x_195 => some (.inl (s_58.1 + 4, x_195.2.1, x_195.2.2.1, x_195.2.2.2.1, x_195.2.2.2.2.1, x_195.2.2.2.2.2, x_184.2.1, x_184.2.2.1, x_184.2.2.2, s_58.2.2.2.2.2.2.2.2.2.1 + 1, s_58.2.2.2.2.2.2.2.2.2.2 + 6)))) else none) else none) else none) else none))) else none) else none) else none) else (if ((xs s_58.1.toNatClampNeg) &&& 31) = 6 then ((gL_test s_58.2.2.2.2.2.2.1 s_58.2.2.2.2.2.2.2.1 s_58.2.2.2.2.2.2.2.2.1).bind fun x_208 => (if s_58.2.2.2.2.2.2.2.2.2.1 + 1 ≤ 1006402 ∧ s_58.2.2.2.2.2.2.2.2.2.2 + 6 ≤ 6076897 then ((gX9w_test s_58.2.1 s_58.2.2.1 s_58.2.2.2.1 s_58.2.2.2.2.1 s_58.2.2.2.2.2.1).bind fun x_214 => (if s_58.2.2.2.2.2.2.2.2.2.1 + 1 + 10 ≤ 1006402 ∧ s_58.2.2.2.2.2.2.2.2.2.2 + 6 + 50 ≤ 6076897 then some (.inl (s_58.1 + 4, x_214.2.1, x_214.2.2.1, x_214.2.2.2.1, x_214.2.2.2.2.1, x_214.2.2.2.2.2, x_208.2.1, x_208.2.2.1, x_208.2.2.2, s_58.2.2.2.2.2.2.2.2.2.1 + 1 + 10, s_58.2.2.2.2.2.2.2.2.2.2 + 6 + 50)) else none)) else none)) else (if ((xs s_58.1.toNatClampNeg) &&& 31) = 7 then ((gL_start s_58.2.2.2.2.2.2.1 s_58.2.2.2.2.2.2.2.1 s_58.2.2.2.2.2.2.2.2.1).bind fun x_222 => (if s_58.2.2.2.2.2.2.2.2.2.1 + 1 ≤ 1006402 ∧ s_58.2.2.2.2.2.2.2.2.2.2 + 6 ≤ 6076897 then ((gX9w_begin s_58.2.1 s_58.2.2.1 s_58.2.2.2.1 s_58.2.2.2.2.1 s_58.2.2.2.2.2.1).bind fun x_228 => (if s_58.2.2.2.2.2.2.2.2.2.1 + 1 + 100 ≤ 1006402 ∧ s_58.2.2.2.2.2.2.2.2.2.2 + 6 + 500 ≤ 6076897 then some (.inl (s_58.1 + 4, x_228.2.1, x_228.2.2.1, x_228.2.2.2.1, x_228.2.2.2.2.1, x_228.2.2.2.2.2, x_222.2.1, x_222.2.2.1, x_222.2.2.2, s_58.2.2.2.2.2.2.2.2.2.1 + 1 + 100, s_58.2.2.2.2.2.2.2.2.2.2 + 6 + 500)) else none)) else none)) else (if ((xs s_58.1.toNatClampNeg) &&& 31) = 8 then (if ¬ ((s_58.1 + 1) < 0 ∨ nL ≤ (s_58.1 + 1).toNatClampNeg) then ((gL_beat s_58.2.2.2.2.2.2.1 s_58.2.2.2.2.2.2.2.1 s_58.2.2.2.2.2.2.2.2.1 (xs (s_58.1 + 1).toNatClampNeg)).bind fun x_237 => (if s_58.2.2.2.2.2.2.2.2.2.1 + 1 ≤ 1006402 ∧ s_58.2.2.2.2.2.2.2.2.2.2 + 6 ≤ 6076897 then (if ¬ ((s_58.1 + 1) < 0 ∨ nL ≤ (s_58.1 + 1).toNatClampNeg) then ((gX9w_beat s_58.2.1 s_58.2.2.1 s_58.2.2.2.1 s_58.2.2.2.2.1 s_58.2.2.2.2.2.1 (xs (s_58.1 + 1).toNatClampNeg)).bind fun x_244 => (if s_58.2.2.2.2.2.2.2.2.2.1 + 1 + 200 ≤ 1006402 ∧ s_58.2.2.2.2.2.2.2.2.2.2 + 6 + 1800 ≤ 6076897 then some (.inl (s_58.1 + 4, x_244.2.1, x_244.2.2.1, x_244.2.2.2.1, x_244.2.2.2.2.1, x_244.2.2.2.2.2, x_237.2.1, x_237.2.2.1, x_237.2.2.2, s_58.2.2.2.2.2.2.2.2.2.1 + 1 + 200, s_58.2.2.2.2.2.2.2.2.2.2 + 6 + 1800)) else none)) else none) else none)) else none) else (if ((xs s_58.1.toNatClampNeg) &&& 31) = 9 then (if ¬ ((s_58.1 + 1) < 0 ∨ nL ≤ (s_58.1 + 1).toNatClampNeg) then (if ¬ ((s_58.1 + 2) < 0 ∨ nL ≤ (s_58.1 + 2).toNatClampNeg) then (if ¬ ((s_58.1 + 3) < 0 ∨ nL ≤ (s_58.1 + 3).toNatClampNeg) then ((gL_bend s_58.2.2.2.2.2.2.1 s_58.2.2.2.2.2.2.2.1 s_58.2.2.2.2.2.2.2.2.1 (xs (s_58.1 + 1).toNatClampNeg) (xs (s_58.1 + 2).toNatClampNeg) (xs (s_58.1 + 3).toNatClampNeg)).bind fun x_255 => (if s_58.2.2.2.2.2.2.2.2.2.1 + 1 ≤ 1006402 ∧ s_58.2.2.2.2.2.2.2.2.2.2 + 6 ≤ 6076897 then (if ¬ ((s_58.1 + 1) < 0 ∨ nL ≤ (s_58.1 + 1).toNatClampNeg) then (if ¬ ((s_58.1 + 2) < 0 ∨ nL ≤ (s_58.1 + 2).toNatClampNeg) then (if ¬ ((s_58.1 + 3) < 0 ∨ nL ≤ (s_58.1 + 3).toNatClampNeg) then ((gX9w_bend s_58.2.1 s_58.2.2.1 s_58.2.2.2.1 s_58.2.2.2.2.1 s_58.2.2.2.2.2.1 (xs (s_58.1 + 1).toNatClampNeg) (xs (s_58.1 + 2).toNatClampNeg) (xs (s_58.1 + 3).toNatClampNeg)).bind fun x_264 => some (.inl (s_58.1 + 4, x_264.2.1, x_264.2.2.1, x_264.2.2.2.1, x_264.2.2.2.2.1, x_264.2.2.2.2.2, x_255.2.1, x_255.2.2.1, x_255.2.2.2, s_58.2.2.2.2.2.2.2.2.2.1 + 1, s_58.2.2.2.2.2.2.2.2.2.2 + 6))) else none) else none) else none) else none)) else none) else none) else none) else (if ((xs s_58.1.toNatClampNeg) &&& 31) = 10 then ((gL_check s_58.2.2.2.2.2.2.1 s_58.2.2.2.2.2.2.2.1 s_58.2.2.2.2.2.2.2.2.1).bind fun x_271 => (if s_58.2.2.2.2.2.2.2.2.2.1 + 1 ≤ 1006402 ∧ s_58.2.2.2.2.2.2.2.2.2.2 + 6 ≤ 6076897 then ((gX9w_check s_58.2.1 s_58.2.2.1 s_58.2.2.2.1 s_58.2.2.2.2.1 s_58.2.2.2.2.2.1).bind fun x_277 => some (.inl (s_58.1 + 4, x_277.2.1, x_277.2.2.1, x_277.2.2.2.1, x_277.2.2.2.2.1, x_277.2.2.2.2.2, x_271.2.1, x_271.2.2.1, x_271.2.2.2, s_58.2.2.2.2.2.2.2.2.2.1 + 1, s_58.2.2.2.2.2.2.2.2.2.2 + 6))) else none)) else (if ((xs s_58.1.toNatClampNeg) &&& 31) = 11 then (if ¬ ((s_58.1 + 1) < 0 ∨ nL ≤ (s_58.1 + 1).toNatClampNeg) then ((gL_mesh s_58.2.2.2.2.2.2.1 s_58.2.2.2.2.2.2.2.1 s_58.2.2.2.2.2.2.2.2.1 (xs (s_58.1 + 1).toNatClampNeg)).bind fun x_285 => (if s_58.2.2.2.2.2.2.2.2.2.1 + 1 ≤ 1006402 ∧ s_58.2.2.2.2.2.2.2.2.2.2 + 6 ≤ 6076897 then (if ¬ ((s_58.1 + 1) < 0 ∨ nL ≤ (s_58.1 + 1).toNatClampNeg) then ((gX9w_mesh s_58.2.1 s_58.2.2.1 s_58.2.2.2.1 s_58.2.2.2.2.1 s_58.2.2.2.2.2.1 (xs (s_58.1 + 1).toNatClampNeg)).bind fun x_292 => some (.inl (s_58.1 + 4, x_292.2.1, x_292.2.2.1, x_292.2.2.2.1, x_292.2.2.2.2.1, x_292.2.2.2.2.2, x_285.2.1, x_285.2.2.1, x_285.2.2.2, s_58.2.2.2.2.2.2.2.2.2.1 + 1, s_58.2.2.2.2.2.2.2.2.2.2 + 6))) else none) else none)) else none) else (if ((xs s_58.1.toNatClampNeg) &&& 31) = 12 then (if ¬ ((s_58.1 + 1) < 0 ∨ nL ≤ (s_58.1 + 1).toNatClampNeg) then (if ¬ ((s_58.1 + 2) < 0 ∨ nL ≤ (s_58.1 + 2).toNatClampNeg) then (if ¬ ((s_58.1 + 3) < 0 ∨ nL ≤ (s_58.1 + 3).toNatClampNeg) then ((gL_ofCell s_58.2.2.2.2.2.2.1 s_58.2.2.2.2.2.2.2.1 s_58.2.2.2.2.2.2.2.2.1 (xs (s_58.1 + 1).toNatClampNeg) (xs (s_58.1 + 2).toNatClampNeg) (xs (s_58.1 + 3).toNatClampNeg)).bind fun x_302 => (if s_58.2.2.2.2.2.2.2.2.2.1 + 1 ≤ 1006402 ∧ s_58.2.2.2.2.2.2.2.2.2.2 + 6 ≤ 6076897 then (if ¬ ((s_58.1 + 1) < 0 ∨ nL ≤ (s_58.1 + 1).toNatClampNeg) then (if ¬ ((s_58.1 + 2) < 0 ∨ nL ≤ (s_58.1 + 2).toNatClampNeg) then (if ¬ ((s_58.1 + 3) < 0 ∨ nL ≤ (s_58.1 + 3).toNatClampNeg) then ((gX9w_ofCell s_58.2.1 s_58.2.2.1 s_58.2.2.2.1 s_58.2.2.2.2.1 s_58.2.2.2.2.2.1 (xs (s_58.1 + 1).toNatClampNeg) (xs (s_58.1 + 2).toNatClampNeg) (xs (s_58.1 + 3).toNatClampNeg)).bind fun x_311 => some (.inl (s_58.1 + 4, x_311.2.1, x_311.2.2.1, x_311.2.2.2.1, x_311.2.2.2.2.1, x_311.2.2.2.2.2, x_302.2.1, x_302.2.2.1, x_302.2.2.2, s_58.2.2.2.2.2.2.2.2.2.1 + 1, s_58.2.2.2.2.2.2.2.2.2.2 + 6))) else none) else none) else none) else none)) else none) else none) else none) else (if ((xs s_58.1.toNatClampNeg) &&& 31) = 13 then (if ¬ ((s_58.1 + 1) < 0 ∨ nL ≤ (s_58.1 + 1).toNatClampNeg) then (if ¬ ((s_58.1 + 2) < 0 ∨ nL ≤ (s_58.1 + 2).toNatClampNeg) then ((gL_result s_58.2.2.2.2.2.2.1 s_58.2.2.2.2.2.2.2.1 s_58.2.2.2.2.2.2.2.2.1 (xs (s_58.1 + 1).toNatClampNeg) (xs (s_58.1 + 2).toNatClampNeg)).bind fun x_320 => (if s_58.2.2.2.2.2.2.2.2.2.1 + 1 ≤ 1006402 ∧ s_58.2.2.2.2.2.2.2.2.2.2 + 6 ≤ 6076897 then (if ¬ ((s_58.1 + 1) < 0 ∨ nL ≤ (s_58.1 + 1).toNatClampNeg) then (if ¬ ((s_58.1 + 2) < 0 ∨ nL ≤ (s_58.1 + 2).toNatClampNeg) then ((gX9w_result s_58.2.1 s_58.2.2.1 s_58.2.2.2.1 s_58.2.2.2.2.1 s_58.2.2.2.2.2.1 (xs (s_58.1 + 1).toNatClampNeg) (xs (s_58.1 + 2).toNatClampNeg)).bind fun x_328 => some (.inl (s_58.1 + 4, x_328.2.1, x_328.2.2.1, x_328.2.2.2.1, x_328.2.2.2.2.1, x_328.2.2.2.2.2, x_320.2.1, x_320.2.2.1, x_320.2.2.2, s_58.2.2.2.2.2.2.2.2.2.1 + 1, s_58.2.2.2.2.2.2.2.2.2.2 + 6))) else none) else none) else none)) else none) else none) else (if ((xs s_58.1.toNatClampNeg) &&& 31) = 14 then (if ¬ ((s_58.1 + 1) < 0 ∨ nL ≤ (s_58.1 + 1).toNatClampNeg) then (if ¬ ((s_58.1 + 2) < 0 ∨ nL ≤ (s_58.1 + 2).toNatClampNeg) then ((gL_plain s_58.2.2.2.2.2.2.1 s_58.2.2.2.2.2.2.2.1 s_58.2.2.2.2.2.2.2.2.1 (xs (s_58.1 + 1).toNatClampNeg) (xs (s_58.1 + 2).toNatClampNeg)).bind fun x_337 => (if s_58.2.2.2.2.2.2.2.2.2.1 + 1 ≤ 1006402 ∧ s_58.2.2.2.2.2.2.2.2.2.2 + 6 ≤ 6076897 then (if ¬ ((s_58.1 + 1) < 0 ∨ nL ≤ (s_58.1 + 1).toNatClampNeg) then (if ¬ ((s_58.1 + 2) < 0 ∨ nL ≤ (s_58.1 + 2).toNatClampNeg) then ((gX9w_plain s_58.2.1 s_58.2.2.1 s_58.2.2.2.1 s_58.2.2.2.2.1 s_58.2.2.2.2.2.1 (xs (s_58.1 + 1).toNatClampNeg) (xs (s_58.1 + 2).toNatClampNeg)).bind fun x_345 => some (.inl (s_58.1 + 4, x_345.2.1, x_345.2.2.1, x_345.2.2.2.1, x_345.2.2.2.2.1, x_345.2.2.2.2.2, x_337.2.1, x_337.2.2.1, x_337.2.2.2, s_58.2.2.2.2.2.2.2.2.2.1 + 1, s_58.2.2.2.2.2.2.2.2.2.2 + 6))) else none) else none) else none)) else none) else none) else (if ((xs s_58.1.toNatClampNeg) &&& 31) = 15 then (if ¬ ((s_58.1 + 1) < 0 ∨ nL ≤ (s_58.1 + 1).toNatClampNeg) then ((gL_row s_58.2.2.2.2.2.2.1 s_58.2.2.2.2.2.2.2.1 s_58.2.2.2.2.2.2.2.2.1 (xs (s_58.1 + 1).toNatClampNeg)).bind fun x_353 => (if s_58.2.2.2.2.2.2.2.2.2.1 + 4 ≤ 1006402 ∧ s_58.2.2.2.2.2.2.2.2.2.2 + 40 ≤ 6076897 then (if ¬ ((s_58.1 + 1) < 0 ∨ nL ≤ (s_58.1 + 1).toNatClampNeg) then ((gX9w_row s_58.2.1 s_58.2.2.1 s_58.2.2.2.1 s_58.2.2.2.2.1 s_58.2.2.2.2.2.1 (xs (s_58.1 + 1).toNatClampNeg)).bind fun x_360 => (if s_58.2.2.2.2.2.2.2.2.2.1 + 4 + 4 ≤ 1006402 ∧ s_58.2.2.2.2.2.2.2.2.2.2 + 40 + 40 ≤ 6076897 then some (.inl (s_58.1 + 4, x_360.1, x_360.2.1, x_360.2.2.1, x_360.2.2.2.1, x_360.2.2.2.2, x_353.2.1, x_353.2.2.1, x_353.2.2.2, s_58.2.2.2.2.2.2.2.2.2.1 + 4 + 4, s_58.2.2.2.2.2.2.2.2.2.2 + 40 + 40)) else none)) else none) else none)) else none) else (if ((xs s_58.1.toNatClampNeg) &&& 31) = 16 then (if ¬ ((s_58.1 + 1) < 0 ∨ nL ≤ (s_58.1 + 1).toNatClampNeg) then (if ¬ ((s_58.1 + 2) < 0 ∨ nL ≤ (s_58.1 + 2).toNatClampNeg) then ((gL_beats s_58.2.2.2.2.2.2.1 s_58.2.2.2.2.2.2.2.1 s_58.2.2.2.2.2.2.2.2.1 (xs (s_58.1 + 1).toNatClampNeg) (xs (s_58.1 + 2).toNatClampNeg)).bind fun x_371 => (if s_58.2.2.2.2.2.2.2.2.2.1 + 1 ≤ 1006402 ∧ s_58.2.2.2.2.2.2.2.2.2.2 + 6 ≤ 6076897 then (if ¬ ((s_58.1 + 1) < 0 ∨ nL ≤ (s_58.1 + 1).toNatClampNeg) then (if ¬ ((s_58.1 + 2) < 0 ∨ nL ≤ (s_58.1 + 2).toNatClampNeg) then ((gX9w_beats s_58.2.1 s_58.2.2.1 s_58.2.2.2.1 s_58.2.2.2.2.1 s_58.2.2.2.2.2.1 (xs (s_58.1 + 1).toNatClampNeg) (xs (s_58.1 + 2).toNatClampNeg)).bind fun x_379 => some (.inl (s_58.1 + 4, x_379.2.1, x_379.2.2.1, x_379.2.2.2.1, x_379.2.2.2.2.1, x_379.2.2.2.2.2, x_371.2.1, x_371.2.2.1, x_371.2.2.2, s_58.2.2.2.2.2.2.2.2.2.1 + 1, s_58.2.2.2.2.2.2.2.2.2.2 + 6))) else none) else none) else none)) else none) else none) else (if ((xs s_58.1.toNatClampNeg) &&& 31) = 17 then (if ¬ ((s_58.1 + 1) < 0 ∨ nL ≤ (s_58.1 + 1).toNatClampNeg) then ((gL_best s_58.2.2.2.2.2.2.1 s_58.2.2.2.2.2.2.2.1 s_58.2.2.2.2.2.2.2.2.1 (xs (s_58.1 + 1).toNatClampNeg)).bind fun x_387 => (if s_58.2.2.2.2.2.2.2.2.2.1 + 1 ≤ 1006402 ∧ s_58.2.2.2.2.2.2.2.2.2.2 + 6 ≤ 6076897 then (if ¬ ((s_58.1 + 1) < 0 ∨ nL ≤ (s_58.1 + 1).toNatClampNeg) then ((gX9w_best s_58.2.1 s_58.2.2.1 s_58.2.2.2.1 s_58.2.2.2.2.1 s_58.2.2.2.2.2.1 (xs (s_58.1 + 1).toNatClampNeg)).bind fun x_394 => (if s_58.2.2.2.2.2.2.2.2.2.1 + 1 + 30 ≤ 1006402 ∧ s_58.2.2.2.2.2.2.2.2.2.2 + 6 + 60 ≤ 6076897 then some (.inl (s_58.1 + 4, x_394.2.1, x_394.2.2.1, x_394.2.2.2.1, x_394.2.2.2.2.1, x_394.2.2.2.2.2, x_387.2.1, x_387.2.2.1, x_387.2.2.2, s_58.2.2.2.2.2.2.2.2.2.1 + 1 + 30, s_58.2.2.2.2.2.2.2.2.2.2 + 6 + 60)) else none)) else none) else none)) else none) else (if ((xs s_58.1.toNatClampNeg) &&& 31) = 18 then ((gX6_saved s_58.2.2.2.2.2.2.1 s_58.2.2.2.2.2.2.2.1).bind fun x_402 => ((gX9w_saved s_58.2.1 s_58.2.2.1 s_58.2.2.2.1 s_58.2.2.2.2.1 s_58.2.2.2.2.2.1).bind fun x_406 => (if s_58.2.2.2.2.2.2.2.2.2.1 + 60 ≤ 1006402 ∧ s_58.2.2.2.2.2.2.2.2.2.2 + 120 ≤ 6076897 then some (.inl (s_58.1 + 4, x_406.2.1, x_406.2.2.1, x_406.2.2.2.1, x_406.2.2.2.2.1, x_406.2.2.2.2.2, x_402.2.1, x_402.2.2, s_58.2.2.2.2.2.2.2.2.1, s_58.2.2.2.2.2.2.2.2.2.1 + 60, s_58.2.2.2.2.2.2.2.2.2.2 + 120)) else none))) else (if ((xs s_58.1.toNatClampNeg) &&& 31) = 19 then ((gX6_isSound s_58.2.2.2.2.2.2.1 s_58.2.2.2.2.2.2.2.1).bind fun x_414 => ((gX9w_isSound s_58.2.1 s_58.2.2.1 s_58.2.2.2.1 s_58.2.2.2.2.1 s_58.2.2.2.2.2.1).bind fun x_418 => (if s_58.2.2.2.2.2.2.2.2.2.1 + 30 ≤ 1006402 ∧ s_58.2.2.2.2.2.2.2.2.2.2 + 60 ≤ 6076897 then some (.inl (s_58.1 + 4, x_418.2.1, x_418.2.2.1, x_418.2.2.2.1, x_418.2.2.2.2.1, x_418.2.2.2.2.2, x_414.2.1, x_414.2.2, s_58.2.2.2.2.2.2.2.2.1, s_58.2.2.2.2.2.2.2.2.2.1 + 30, s_58.2.2.2.2.2.2.2.2.2.2 + 60)) else none))) else (if ((xs s_58.1.toNatClampNeg) &&& 31) = 20 then ((gX6_digest s_58.2.2.2.2.2.2.1 s_58.2.2.2.2.2.2.2.1).bind fun x_426 => ((gX9w_digest s_58.2.1 s_58.2.2.1 s_58.2.2.2.1 s_58.2.2.2.2.1 s_58.2.2.2.2.2.1).bind fun x_430 => (if s_58.2.2.2.2.2.2.2.2.2.1 + 300 ≤ 1006402 ∧ s_58.2.2.2.2.2.2.2.2.2.2 + 600 ≤ 6076897 then some (.inl (s_58.1 + 4, x_430.2.1, x_430.2.2.1, x_430.2.2.2.1, x_430.2.2.2.2.1, x_430.2.2.2.2.2, x_426.2.1, x_426.2.2, s_58.2.2.2.2.2.2.2.2.1, s_58.2.2.2.2.2.2.2.2.2.1 + 300, s_58.2.2.2.2.2.2.2.2.2.2 + 600)) else none))) else some (.inl (s_58.1 + 4, s_58.2.1, s_58.2.2.1, s_58.2.2.2.1, s_58.2.2.2.2.1, s_58.2.2.2.2.2.1, s_58.2.2.2.2.2.2.1, s_58.2.2.2.2.2.2.2.1, s_58.2.2.2.2.2.2.2.2.1, s_58.2.2.2.2.2.2.2.2.2.1, s_58.2.2.2.2.2.2.2.2.2.2))))))))))))))))))))))) else none)) else none)) yFuel (0, 0, MN0, ML0, MK0, MG0, CN0, CT0, 0, 0 + 1 + 22 + 1 + 47 + 1, 0 + 6 + 637 + 17 + 307 + 2)) (fun o => ∃ z, o = .inl z ∧ z.2.2.2.2.2.2.2.2.2.1 ≤ 400000 ∧ z.2.2.2.2.2.2.2.2.2.2 ≤ 2000000) := by
  refine Ok.for (fun (q : Nat) (s : Int32 × Nat × (Nat → Int32) × Int64 × (Nat → Nat) × (Nat → Nat → Nat → Int32) × (Nat → Int32) × (Nat → Nat → Int32) × Int64 × Nat × Nat) => s.1 = nI (4 * q) ∧ yR2 s.2.2.2.2.2.2.1 s.2.2.2.2.2.2.2.1 s.2.1 s.2.2.1 s.2.2.2.2.1 s.2.2.2.2.2.1 ∧ s.2.2.2.2.2.2.2.2.2.1 ≤ 100 + 400 * q ∧ s.2.2.2.2.2.2.2.2.2.2 ≤ 2000 + 2000 * q) 0 (nL / 4) ⟨rfl, yR2_0, by decide, by decide⟩ (Nat.zero_le _) (by omega) (fun q s _ hq hI => ?_) (fun s hI => ?_)
  · obtain ⟨i, sh, m, L, k, G, n, t, on, cl, sl⟩ := s
    obtain ⟨hi, hR, hcl, hsl⟩ := hI
    have hi : i = nI (4 * q) := hi
    subst hi
    have hR : yR2 n t sh m k G := hR
    have hcl : cl ≤ 100 + 400 * q := hcl
    have hsl : sl ≤ 2000 + 2000 * q := hsl
    have hq4 : 4 * q + 4 ≤ nL := by omega
    have hi4 : nI (4 * q) + 4 = nI (4 * (q + 1)) := by
      rw [li4, nj_add]
      rfl
    have p1 : nI (4 * q) + 1 = nI (4 * q + 1) := nj_add _ 1
    have p2 : nI (4 * q) + 2 = nI (4 * q + 2) := nj_add _ 2
    have p3 : nI (4 * q) + 3 = nI (4 * q + 3) := nj_add _ 3
    have hx0 : ¬ (nI (4 * q) < 0 ∨ nL ≤ (nI (4 * q)).toNatClampNeg) := nj_in (by omega) (by omega)
    have hx1 : ¬ (nI (4 * q) + 1 < 0 ∨ nL ≤ (nI (4 * q) + 1).toNatClampNeg) := by
      rw [p1]
      exact nj_in (by omega) (by omega)
    have hx2 : ¬ (nI (4 * q) + 2 < 0 ∨ nL ≤ (nI (4 * q) + 2).toNatClampNeg) := by
      rw [p2]
      exact nj_in (by omega) (by omega)
    have hx3 : ¬ (nI (4 * q) + 3 < 0 ∨ nL ≤ (nI (4 * q) + 3).toNatClampNeg) := by
      rw [p3]
      exact nj_in (by omega) (by omega)
    dsimp only
    refine Ok.grd ⟨by omega, by omega⟩ ?_
    refine Ok.ite (fun z => absurd z ?_) (fun _ => ?_)
    · rw [yi_lt, yi_nI (by omega), show (4 : Int32) = nI 4 from rfl, yi_sub (by rw [yi_nI (by omega), yi_nI (by omega)]; omega) (by rw [yi_nI (by omega), yi_nI (by omega)]; omega), yi_nI (by omega), yi_nI (by omega)]
      omega
    refine Ok.grd hx0 ?_
    refine Ok.ite (fun _ => ?_) (fun _ => ?_)
    · refine Ok.grd hx1 ?_
      refine Ok.grd hx2 ?_
      refine Ok.grd hx3 ?_
      obtain ⟨x68, y68, ex68, ey68, hR68, ht68, ha68⟩ := sim_shape (L := L) (on := on) (i1 := (xs (nI (4 * q) + 1).toNatClampNeg)) (i2 := (xs (nI (4 * q) + 2).toNatClampNeg)) (i3 := (xs (nI (4 * q) + 3).toNatClampNeg)) hR
      refine Ok.to ex68 ?_
      refine Ok.grd ⟨by omega, by omega⟩ ?_
      refine Ok.grd hx1 ?_
      refine Ok.grd hx2 ?_
      refine Ok.grd hx3 ?_
      refine Ok.to ey68 ?_
      refine Ok.grd ⟨by omega, by omega⟩ ?_
      exact Ok.some ⟨hi4, hR68, by dsimp only; omega, by dsimp only; omega⟩
    · refine Ok.ite (fun _ => ?_) (fun _ => ?_)
      · refine Ok.grd hx1 ?_
        refine Ok.grd hx2 ?_
        refine Ok.grd hx3 ?_
        obtain ⟨x88, y88, ex88, ey88, hR88, ht88, ha88⟩ := sim_left (L := L) (on := on) (i1 := (xs (nI (4 * q) + 1).toNatClampNeg)) (i2 := (xs (nI (4 * q) + 2).toNatClampNeg)) (i3 := (xs (nI (4 * q) + 3).toNatClampNeg)) hR
        refine Ok.to ex88 ?_
        refine Ok.grd ⟨by omega, by omega⟩ ?_
        refine Ok.grd hx1 ?_
        refine Ok.grd hx2 ?_
        refine Ok.grd hx3 ?_
        refine Ok.to ey88 ?_
        exact Ok.some ⟨hi4, hR88, by dsimp only; omega, by dsimp only; omega⟩
      · refine Ok.ite (fun _ => ?_) (fun _ => ?_)
        · refine Ok.grd hx1 ?_
          refine Ok.grd hx2 ?_
          refine Ok.grd hx3 ?_
          obtain ⟨x107, y107, ex107, ey107, hR107, ht107, ha107⟩ := sim_top (L := L) (on := on) (i1 := (xs (nI (4 * q) + 1).toNatClampNeg)) (i2 := (xs (nI (4 * q) + 2).toNatClampNeg)) (i3 := (xs (nI (4 * q) + 3).toNatClampNeg)) hR
          refine Ok.to ex107 ?_
          refine Ok.grd ⟨by omega, by omega⟩ ?_
          refine Ok.grd hx1 ?_
          refine Ok.grd hx2 ?_
          refine Ok.grd hx3 ?_
          refine Ok.to ey107 ?_
          exact Ok.some ⟨hi4, hR107, by dsimp only; omega, by dsimp only; omega⟩
        · refine Ok.ite (fun _ => ?_) (fun _ => ?_)
          · refine Ok.grd hx1 ?_
            obtain ⟨x124, y124, ex124, ey124, hR124, ht124, ha124⟩ := sim_kind (L := L) (on := on) (i1 := (xs (nI (4 * q) + 1).toNatClampNeg)) hR
            refine Ok.to ex124 ?_
            refine Ok.grd ⟨by omega, by omega⟩ ?_
            refine Ok.grd hx1 ?_
            refine Ok.to ey124 ?_
            exact Ok.some ⟨hi4, hR124, by dsimp only; omega, by dsimp only; omega⟩
          · refine Ok.ite (fun _ => ?_) (fun _ => ?_)
            · refine Ok.grd hx1 ?_
              refine Ok.to (yb_iten _) ?_
              obtain ⟨x141, y141, ex141, ey141, hR141, ht141, ha141, hb141⟩ := sim_checked (L := L) (on := on) (i1 := (yb !decide ((xs (nI (4 * q) + 1).toNatClampNeg) = 0))) hR (yBb _)
              refine Ok.to ex141 ?_
              refine Ok.grd ⟨by omega, by omega⟩ ?_
              refine Ok.grd hx1 ?_
              refine Ok.to (yb_iten _) ?_
              refine Ok.to ey141 ?_
              refine Ok.to e_thrown ?_
              refine Ok.ite (fun _ => ?_) (fun z => absurd ht141 z)
              refine Ok.ite (fun z141 => ?_) (fun z141 => ?_)
              · refine Ok.to (yb64 hb141) ?_
                refine Ok.ite (fun _ => ?_) (fun z => absurd ((yCmp _ _).mpr (ha141 z141)) z)
                exact Ok.some ⟨hi4, (yR2_m hR141), by dsimp only; omega, by dsimp only; omega⟩
              · exact Ok.some ⟨hi4, (yR2_m hR141), by dsimp only; omega, by dsimp only; omega⟩
            · refine Ok.ite (fun _ => ?_) (fun _ => ?_)
              · refine Ok.grd hx1 ?_
                refine Ok.grd hx2 ?_
                refine Ok.grd hx3 ?_
                refine Ok.to (yb_iten _) ?_
                obtain ⟨x184, y184, ex184, ey184, hR184⟩ := sim_broken (L := L) (on := on) (i1 := (xs (nI (4 * q) + 1).toNatClampNeg)) (i2 := (xs (nI (4 * q) + 2).toNatClampNeg)) (isb := (yb !decide ((xs (nI (4 * q) + 3).toNatClampNeg) = 0))) hR (yBb _)
                refine Ok.to ex184 ?_
                refine Ok.grd ⟨by omega, by omega⟩ ?_
                refine Ok.grd hx1 ?_
                refine Ok.grd hx2 ?_
                refine Ok.grd hx3 ?_
                refine Ok.to (yb_iten _) ?_
                refine Ok.to ey184 ?_
                exact Ok.some ⟨hi4, hR184, by dsimp only; omega, by dsimp only; omega⟩
              · refine Ok.ite (fun _ => ?_) (fun _ => ?_)
                · obtain ⟨x208, y208, ex208, ey208, hR208⟩ := sim_test (L := L) (on := on)  hR
                  refine Ok.to ex208 ?_
                  refine Ok.grd ⟨by omega, by omega⟩ ?_
                  refine Ok.to ey208 ?_
                  refine Ok.grd ⟨by omega, by omega⟩ ?_
                  exact Ok.some ⟨hi4, hR208, by dsimp only; omega, by dsimp only; omega⟩
                · refine Ok.ite (fun _ => ?_) (fun _ => ?_)
                  · obtain ⟨x222, y222, ex222, ey222, hR222⟩ := sim_start (L := L) (on := on)  hR
                    refine Ok.to ex222 ?_
                    refine Ok.grd ⟨by omega, by omega⟩ ?_
                    refine Ok.to ey222 ?_
                    refine Ok.grd ⟨by omega, by omega⟩ ?_
                    exact Ok.some ⟨hi4, hR222, by dsimp only; omega, by dsimp only; omega⟩
                  · refine Ok.ite (fun _ => ?_) (fun _ => ?_)
                    · refine Ok.grd hx1 ?_
                      obtain ⟨x237, y237, ex237, ey237, hR237⟩ := sim_beat (L := L) (on := on) (i1 := (xs (nI (4 * q) + 1).toNatClampNeg)) hR
                      refine Ok.to ex237 ?_
                      refine Ok.grd ⟨by omega, by omega⟩ ?_
                      refine Ok.grd hx1 ?_
                      refine Ok.to ey237 ?_
                      refine Ok.grd ⟨by omega, by omega⟩ ?_
                      exact Ok.some ⟨hi4, hR237, by dsimp only; omega, by dsimp only; omega⟩
                    · refine Ok.ite (fun _ => ?_) (fun _ => ?_)
                      · refine Ok.grd hx1 ?_
                        refine Ok.grd hx2 ?_
                        refine Ok.grd hx3 ?_
                        obtain ⟨x255, y255, ex255, ey255, hR255⟩ := sim_bend (L := L) (on := on) (i1 := (xs (nI (4 * q) + 1).toNatClampNeg)) (i2 := (xs (nI (4 * q) + 2).toNatClampNeg)) (i3 := (xs (nI (4 * q) + 3).toNatClampNeg)) hR
                        refine Ok.to ex255 ?_
                        refine Ok.grd ⟨by omega, by omega⟩ ?_
                        refine Ok.grd hx1 ?_
                        refine Ok.grd hx2 ?_
                        refine Ok.grd hx3 ?_
                        refine Ok.to ey255 ?_
                        exact Ok.some ⟨hi4, hR255, by dsimp only; omega, by dsimp only; omega⟩
                      · refine Ok.ite (fun _ => ?_) (fun _ => ?_)
                        · obtain ⟨x271, y271, ex271, ey271, hR271⟩ := sim_check (L := L) (on := on)  hR
                          refine Ok.to ex271 ?_
                          refine Ok.grd ⟨by omega, by omega⟩ ?_
                          refine Ok.to ey271 ?_
                          exact Ok.some ⟨hi4, hR271, by dsimp only; omega, by dsimp only; omega⟩
                        · refine Ok.ite (fun _ => ?_) (fun _ => ?_)
                          · refine Ok.grd hx1 ?_
                            obtain ⟨x285, y285, ex285, ey285, hR285⟩ := sim_mesh (L := L) (on := on) (i1 := (xs (nI (4 * q) + 1).toNatClampNeg)) hR
                            refine Ok.to ex285 ?_
                            refine Ok.grd ⟨by omega, by omega⟩ ?_
                            refine Ok.grd hx1 ?_
                            refine Ok.to ey285 ?_
                            exact Ok.some ⟨hi4, hR285, by dsimp only; omega, by dsimp only; omega⟩
                          · refine Ok.ite (fun _ => ?_) (fun _ => ?_)
                            · refine Ok.grd hx1 ?_
                              refine Ok.grd hx2 ?_
                              refine Ok.grd hx3 ?_
                              obtain ⟨x302, y302, ex302, ey302, hR302⟩ := sim_ofCell (L := L) (on := on) (i1 := (xs (nI (4 * q) + 1).toNatClampNeg)) (i2 := (xs (nI (4 * q) + 2).toNatClampNeg)) (i3 := (xs (nI (4 * q) + 3).toNatClampNeg)) hR
                              refine Ok.to ex302 ?_
                              refine Ok.grd ⟨by omega, by omega⟩ ?_
                              refine Ok.grd hx1 ?_
                              refine Ok.grd hx2 ?_
                              refine Ok.grd hx3 ?_
                              refine Ok.to ey302 ?_
                              exact Ok.some ⟨hi4, hR302, by dsimp only; omega, by dsimp only; omega⟩
                            · refine Ok.ite (fun _ => ?_) (fun _ => ?_)
                              · refine Ok.grd hx1 ?_
                                refine Ok.grd hx2 ?_
                                obtain ⟨x320, y320, ex320, ey320, hR320⟩ := sim_result (L := L) (on := on) (i1 := (xs (nI (4 * q) + 1).toNatClampNeg)) (i2 := (xs (nI (4 * q) + 2).toNatClampNeg)) hR
                                refine Ok.to ex320 ?_
                                refine Ok.grd ⟨by omega, by omega⟩ ?_
                                refine Ok.grd hx1 ?_
                                refine Ok.grd hx2 ?_
                                refine Ok.to ey320 ?_
                                exact Ok.some ⟨hi4, hR320, by dsimp only; omega, by dsimp only; omega⟩
                              · refine Ok.ite (fun _ => ?_) (fun _ => ?_)
                                · refine Ok.grd hx1 ?_
                                  refine Ok.grd hx2 ?_
                                  obtain ⟨x337, y337, ex337, ey337, hR337, ht337, ha337⟩ := sx_plain (L := L) (on := on) (i1 := (xs (nI (4 * q) + 1).toNatClampNeg)) (i2 := (xs (nI (4 * q) + 2).toNatClampNeg)) hR
                                  refine Ok.to ex337 ?_
                                  refine Ok.grd ⟨by omega, by omega⟩ ?_
                                  refine Ok.grd hx1 ?_
                                  refine Ok.grd hx2 ?_
                                  refine Ok.to ey337 ?_
                                  exact Ok.some ⟨hi4, hR337, by dsimp only; omega, by dsimp only; omega⟩
                                · refine Ok.ite (fun _ => ?_) (fun _ => ?_)
                                  · refine Ok.grd hx1 ?_
                                    obtain ⟨x353, y353, ex353, ey353, hR353⟩ := sim_row (L := L) (on := on) (i1 := (xs (nI (4 * q) + 1).toNatClampNeg)) hR
                                    refine Ok.to ex353 ?_
                                    refine Ok.grd ⟨by omega, by omega⟩ ?_
                                    refine Ok.grd hx1 ?_
                                    refine Ok.to ey353 ?_
                                    refine Ok.grd ⟨by omega, by omega⟩ ?_
                                    exact Ok.some ⟨hi4, hR353, by dsimp only; omega, by dsimp only; omega⟩
                                  · refine Ok.ite (fun _ => ?_) (fun _ => ?_)
                                    · refine Ok.grd hx1 ?_
                                      refine Ok.grd hx2 ?_
                                      obtain ⟨x371, y371, ex371, ey371, hR371⟩ := sim_beats (L := L) (on := on) (i1 := (xs (nI (4 * q) + 1).toNatClampNeg)) (i2 := (xs (nI (4 * q) + 2).toNatClampNeg)) hR
                                      refine Ok.to ex371 ?_
                                      refine Ok.grd ⟨by omega, by omega⟩ ?_
                                      refine Ok.grd hx1 ?_
                                      refine Ok.grd hx2 ?_
                                      refine Ok.to ey371 ?_
                                      exact Ok.some ⟨hi4, hR371, by dsimp only; omega, by dsimp only; omega⟩
                                    · refine Ok.ite (fun _ => ?_) (fun _ => ?_)
                                      · refine Ok.grd hx1 ?_
                                        obtain ⟨x387, y387, ex387, ey387, hR387⟩ := sim_best (L := L) (on := on) (i1 := (xs (nI (4 * q) + 1).toNatClampNeg)) hR
                                        refine Ok.to ex387 ?_
                                        refine Ok.grd ⟨by omega, by omega⟩ ?_
                                        refine Ok.grd hx1 ?_
                                        refine Ok.to ey387 ?_
                                        refine Ok.grd ⟨by omega, by omega⟩ ?_
                                        exact Ok.some ⟨hi4, hR387, by dsimp only; omega, by dsimp only; omega⟩
                                      · refine Ok.ite (fun _ => ?_) (fun _ => ?_)
                                        · obtain ⟨x402, y402, ex402, ey402, hR402⟩ := sim_saved (L := L)  hR
                                          refine Ok.to ex402 ?_
                                          refine Ok.to ey402 ?_
                                          refine Ok.grd ⟨by omega, by omega⟩ ?_
                                          exact Ok.some ⟨hi4, hR402, by dsimp only; omega, by dsimp only; omega⟩
                                        · refine Ok.ite (fun _ => ?_) (fun _ => ?_)
                                          · obtain ⟨x414, y414, ex414, ey414, hR414⟩ := sim_isSound (L := L)  hR
                                            refine Ok.to ex414 ?_
                                            refine Ok.to ey414 ?_
                                            refine Ok.grd ⟨by omega, by omega⟩ ?_
                                            exact Ok.some ⟨hi4, hR414, by dsimp only; omega, by dsimp only; omega⟩
                                          · refine Ok.ite (fun _ => ?_) (fun _ => ?_)
                                            · obtain ⟨x426, y426, ex426, ey426, hR426⟩ := sim_digest (L := L)  hR
                                              refine Ok.to ex426 ?_
                                              refine Ok.to ey426 ?_
                                              refine Ok.grd ⟨by omega, by omega⟩ ?_
                                              exact Ok.some ⟨hi4, hR426, by dsimp only; omega, by dsimp only; omega⟩
                                            · exact Ok.some ⟨hi4, hR, by dsimp only; omega, by dsimp only; omega⟩
  · obtain ⟨i, sh, m, L, k, G, n, t, on, cl, sl⟩ := s
    obtain ⟨hi, hR, hcl, hsl⟩ := hI
    have hi : i = nI (4 * (nL / 4)) := hi
    subst hi
    have hcl : cl ≤ 100 + 400 * (nL / 4) := hcl
    have hsl : sl ≤ 2000 + 2000 * (nL / 4) := hsl
    dsimp only
    refine Ok.grd ⟨by omega, by omega⟩ ?_
    refine Ok.ite (fun _ => ?_) (fun z => absurd ?_ z)
    · exact Ok.some ⟨_, rfl, by dsimp only; omega, by dsimp only; omega⟩
    · rw [yi_lt, yi_nI (by omega), show (4 : Int32) = nI 4 from rfl, yi_sub (by rw [yi_nI (by omega), yi_nI (by omega)]; omega) (by rw [yi_nI (by omega), yi_nI (by omega)]; omega), yi_nI (by omega), yi_nI (by omega)]
      omega
theorem yX6 : ∃ v, fX6_init = some v := by
  cases e : fX6_init with
  | none => exact absurd e (by decide +kernel)
  | some v => exact ⟨v, rfl⟩
theorem pure_law {L : Nat} {xs : Nat → Int32} (hL : L ≤ 2048) : fL_law L xs = some 1 := by
  obtain ⟨b, hb, z, rfl, h1, h2⟩ := ylaw_loop (xs := xs) hL
  obtain ⟨x, hx, hp⟩ := o_X9_lay_0 (i1 := 2) (i2 := 2) (i3 := 2) ⟨by decide, by decide⟩ ⟨by decide, by decide⟩ ⟨by decide, by decide⟩
  have e9 : ∃ v, fX9_init = some v := by
    unfold fX9_init
    exact ⟨_, bto (show fX8_init = some () from rfl) (bto hx rfl)⟩
  have e6 : ∃ v, fX6_init = some v := yX6
  obtain ⟨v9, e9⟩ := e9
  obtain ⟨v6, e6⟩ := e6
  unfold fL_law
  refine bto e6 ?_
  refine bto e9 ?_
  refine bto (show fX7_init = some () from rfl) ?_
  refine bto hb ?_
  rw [ybr_il]
  exact if_pos ⟨by omega, by omega⟩
