theorem bsi {α β : Type} {o : Option α} {F : α → β} {v : β} (h : (o.bind fun r => some (F r)) = some v) : ∃ r, v = F r := by
  cases o with
  | none => cases h
  | some r =>
    cases h
    exact ⟨r, rfl⟩
theorem fr_isSound {n : Nat → Int32} {t : Nat → Nat → Int32} {v : Int32 × (Nat → Int32) × (Nat → Nat → Int32)} (h : gX6_isSound n t = some v) : (v.2.1 0 = n 0 ∧ v.2.1 1 = n 1 ∧ v.2.1 2 = n 2 ∧ v.2.1 3 = n 3 ∧ v.2.1 4 = n 4) ∧ v.2.2 0 = t 0 ∧ v.2.2 1 = t 1 := by
  unfold gX6_isSound at h
  obtain ⟨r, rfl⟩ := bsi h
  exact ⟨⟨rfl, rfl, rfl, rfl, rfl⟩, rfl, rfl⟩
theorem fr_digest {n : Nat → Int32} {t : Nat → Nat → Int32} {v : Int64 × (Nat → Int32) × (Nat → Nat → Int32)} (h : gX6_digest n t = some v) : (v.2.1 0 = n 0 ∧ v.2.1 1 = n 1 ∧ v.2.1 2 = n 2 ∧ v.2.1 3 = n 3 ∧ v.2.1 4 = n 4) ∧ v.2.2 0 = t 0 ∧ v.2.2 1 = t 1 := by
  unfold gX6_digest at h
  obtain ⟨r, rfl⟩ := bsi h
  exact ⟨⟨rfl, rfl, rfl, rfl, rfl⟩, rfl, rfl⟩
