theorem va_ne {α : Type} {f : Nat → α} {k j : Nat} {v : α} (h : j ≠ k) : va_up f k v j = f j := if_neg h
def yFC (n n2 : Nat → Int32) (t t2 : Nat → Nat → Int32) : Prop := (∀ i, 5 ≤ i → i < 34 → n2 i = n i) ∧ ∀ i, 2 ≤ i → t2 i = t i
theorem f4_isSound {n : Nat → Int32} {t : Nat → Nat → Int32} {v : Int32 × (Nat → Int32) × (Nat → Nat → Int32)} (h : gX6_isSound n t = some v) : yFC n v.2.1 t v.2.2 := by
  unfold gX6_isSound at h
  obtain ⟨r, rfl⟩ := bsi h
  refine ⟨fun i h1 h2 => ?_, fun i h1 => ?_⟩
  · dsimp only
    try (repeat rw [va_ne (by omega)])
  · dsimp only
    try (repeat rw [va_ne (by omega)])
theorem f4_digest {n : Nat → Int32} {t : Nat → Nat → Int32} {v : Int64 × (Nat → Int32) × (Nat → Nat → Int32)} (h : gX6_digest n t = some v) : yFC n v.2.1 t v.2.2 := by
  unfold gX6_digest at h
  obtain ⟨r, rfl⟩ := bsi h
  refine ⟨fun i h1 h2 => ?_, fun i h1 => ?_⟩
  · dsimp only
    try (repeat rw [va_ne (by omega)])
  · dsimp only
    try (repeat rw [va_ne (by omega)])
