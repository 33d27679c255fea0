/-! ===== the whole relation ===== -/
def yRr (W : Nat) (n : Nat → Int32) (t : Nat → Nat → Int32) (m : Nat → Int32) (L : Int64) (k : Nat → Nat) (G : Nat → Nat → Nat → Int32) : Prop := ∃ r2 k2 c2 g2 s2 lr lc ti go, yMr m k G r2 k2 c2 g2 s2 lr lc ti go ∧ (n 19 = nI r2 ∧ n 20 = nI k2 ∧ n 21 = nI c2 ∧ n 22 = nI g2 ∧ n 23 = nI s2) ∧ yTq r2 k2 (t 5) (G 8) ∧ yTq k2 c2 (t 6) (G 9) ∧ n 10 = nI (ySk k2 (yIdle g2 r2 (G 8) c2 (G 9))) ∧ (n 24 = nI (r2 + s2) ∧ n 25 = nI (c2 + s2) ∧ n 26 = nI (yJst r2 k2 c2 g2 (G 8) (G 9)) ∧ n 27 = nI lr ∧ n 28 = nI lc ∧ n 29 = nI (yPop lr) ∧ n 30 = nI (yPop lc) ∧ n 31 = nI (yTl (r2 + s2) (yPop lr)) ∧ n 32 = nI (yTl (c2 + s2) (yPop lc))) ∧ yCR r2 k2 c2 g2 s2 lr lc (G 8) (G 9) (m 1, L, ti, go, G 4, G 5, k 6, k 7, G 7) (n 11) (n 12) (n 13) (n 14) (n 15) (n 16) (t 2) (t 3) (t 4) ∧ n 7 = 0 ∧ n 8 = 0 ∧ k 4 = 0 ∧ k 5 = 0 ∧ yX r2 c2 s2 lr lc (yJst r2 k2 c2 g2 (G 8) (G 9)) W (m 1) L ti go (G 4) (n 18)
def yRi (W : Nat) (n : Nat → Int32) (t : Nat → Nat → Int32) (m : Nat → Int32) (L : Int64) (k : Nat → Nat) (G : Nat → Nat → Nat → Int32) : Prop := n 15 = 0 ∧ n 16 = m 1 ∧ yT5 (t 2) (G 4) ∧ yT5 (t 3) (G 5) ∧ n 7 = nI (k 4) ∧ n 8 = nI (k 5) ∧ (k 4 = 0 → k 5 = 0) ∧ (1 ≤ k 4 → 1 ≤ k 5 ∧ n 9 = m 7) ∧ yTq (k 4) (k 5) (t 4) (G 6) ∧ yXE W (m 1) L (G 4) (n 18)
def yRest (W : Nat) (n : Nat → Int32) (t : Nat → Nat → Int32) (sh : Nat) (m : Nat → Int32) (L : Int64) (k : Nat → Nat) (G : Nat → Nat → Nat → Int32) : Prop := yFlag (n 5) (G 2) ∧ yFlag (n 6) (G 3) ∧ ySub (G 2) (G 3) ∧ n 17 = m 2 ∧ (2 ≤ sh → yRr W n t m L k G) ∧ (¬ 2 ≤ sh → yRi W n t m L k G)
def yR4 (W : Nat) (n : Nat → Int32) (t : Nat → Nat → Int32) (sh : Nat) (m : Nat → Int32) (L : Int64) (k : Nat → Nat) (G : Nat → Nat → Nat → Int32) : Prop := yR2 n t sh m k G ∧ yRest W n t sh m L k G
theorem yRest_mono {W V : Nat} {n : Nat → Int32} {t : Nat → Nat → Int32} {sh : Nat} {m : Nat → Int32} {L : Int64} {k : Nat → Nat} {G : Nat → Nat → Nat → Int32} (h : yRest W n t sh m L k G) (hW : W ≤ V) : yRest V n t sh m L k G := by
  obtain ⟨a, b, c, d, e, f⟩ := h
  refine ⟨a, b, c, d, fun z => ?_, fun z => ?_⟩
  · obtain ⟨r2, k2, c2, g2, s2, lr, lc, ti, go, w1, w2, w3, w4, w5, w6, w7, w8, w9, w10, w11, w12⟩ := e z
    exact ⟨r2, k2, c2, g2, s2, lr, lc, ti, go, w1, w2, w3, w4, w5, w6, w7, w8, w9, w10, w11, yX_mono w12 hW⟩
  · obtain ⟨w1, w2, w3, w4, w5, w6, w7, w8, w9, w10⟩ := f z
    exact ⟨w1, w2, w3, w4, w5, w6, w7, w8, w9, yXE_mono w10 hW⟩
theorem yR4_mono {W V : Nat} {n : Nat → Int32} {t : Nat → Nat → Int32} {sh : Nat} {m : Nat → Int32} {L : Int64} {k : Nat → Nat} {G : Nat → Nat → Nat → Int32} (h : yR4 W n t sh m L k G) (hW : W ≤ V) : yR4 V n t sh m L k G := ⟨h.1, yRest_mono h.2 hW⟩
theorem va_ne {α : Type} {f : Nat → α} {k j : Nat} {v : α} (h : j ≠ k) : va_up f k v j = f j := if_neg h
theorem min2 {sh : Nat} : (2 ≤ min sh 2) = (2 ≤ sh) := propext ⟨fun h => by omega, fun h => by omega⟩
def yFC (n n2 : Nat → Int32) (t t2 : Nat → Nat → Int32) : Prop := (∀ i, 5 ≤ i → i < 34 → n2 i = n i) ∧ ∀ i, 2 ≤ i → t2 i = t i
def yFM (sh sh2 : Nat) (m m2 : Nat → Int32) (L L2 : Int64) (k k2 : Nat → Nat) (G G2 : Nat → Nat → Nat → Int32) : Prop := sh2 = min sh 2 ∧ (∀ i, 1 ≤ i → i < 8 → m2 i = m i) ∧ (∀ i, 13 ≤ i → m2 i = m i) ∧ L2 = L ∧ (∀ i, 4 ≤ i → k2 i = k i) ∧ ∀ i, 2 ≤ i → G2 i = G i
theorem yRest_congr {W : Nat} {n n2 : Nat → Int32} {t t2 : Nat → Nat → Int32} {sh sh2 : Nat} {m m2 : Nat → Int32} {L L2 : Int64} {k k2 : Nat → Nat} {G G2 : Nat → Nat → Nat → Int32} (fc : yFC n n2 t t2) (fm : yFM sh sh2 m m2 L L2 k k2 G G2) (h : yRest W n t sh m L k G) : yRest W n2 t2 sh2 m2 L2 k2 G2 := by
  obtain ⟨hn, ht⟩ := fc
  obtain ⟨rfl, hm, hm2, rfl, hk, hG⟩ := fm
  have n5 := hn 5 (by decide) (by decide)
  have n6 := hn 6 (by decide) (by decide)
  have n7 := hn 7 (by decide) (by decide)
  have n8 := hn 8 (by decide) (by decide)
  have n9 := hn 9 (by decide) (by decide)
  have n10 := hn 10 (by decide) (by decide)
  have n11 := hn 11 (by decide) (by decide)
  have n12 := hn 12 (by decide) (by decide)
  have n13 := hn 13 (by decide) (by decide)
  have n14 := hn 14 (by decide) (by decide)
  have n15 := hn 15 (by decide) (by decide)
  have n16 := hn 16 (by decide) (by decide)
  have n17 := hn 17 (by decide) (by decide)
  have n18 := hn 18 (by decide) (by decide)
  have n19 := hn 19 (by decide) (by decide)
  have n20 := hn 20 (by decide) (by decide)
  have n21 := hn 21 (by decide) (by decide)
  have n22 := hn 22 (by decide) (by decide)
  have n23 := hn 23 (by decide) (by decide)
  have n24 := hn 24 (by decide) (by decide)
  have n25 := hn 25 (by decide) (by decide)
  have n26 := hn 26 (by decide) (by decide)
  have n27 := hn 27 (by decide) (by decide)
  have n28 := hn 28 (by decide) (by decide)
  have n29 := hn 29 (by decide) (by decide)
  have n30 := hn 30 (by decide) (by decide)
  have n31 := hn 31 (by decide) (by decide)
  have n32 := hn 32 (by decide) (by decide)
  have t2 := ht 2 (by decide)
  have t3 := ht 3 (by decide)
  have t4 := ht 4 (by decide)
  have t5 := ht 5 (by decide)
  have t6 := ht 6 (by decide)
  have m1 := hm 1 (by decide) (by decide)
  have m2 := hm 2 (by decide) (by decide)
  have m3 := hm 3 (by decide) (by decide)
  have m4 := hm 4 (by decide) (by decide)
  have m5 := hm 5 (by decide) (by decide)
  have m6 := hm 6 (by decide) (by decide)
  have m7 := hm 7 (by decide) (by decide)
  have m13 := hm2 13 (by decide)
  have m14 := hm2 14 (by decide)
  have m15 := hm2 15 (by decide)
  have m16 := hm2 16 (by decide)
  have m17 := hm2 17 (by decide)
  have k4 := hk 4 (by decide)
  have k5 := hk 5 (by decide)
  have k6 := hk 6 (by decide)
  have k7 := hk 7 (by decide)
  have k8 := hk 8 (by decide)
  have k9 := hk 9 (by decide)
  have k10 := hk 10 (by decide)
  have k11 := hk 11 (by decide)
  have G2 := hG 2 (by decide)
  have G3 := hG 3 (by decide)
  have G4 := hG 4 (by decide)
  have G5 := hG 5 (by decide)
  have G6 := hG 6 (by decide)
  have G7 := hG 7 (by decide)
  have G8 := hG 8 (by decide)
  have G9 := hG 9 (by decide)
  unfold yRest yRr yRi yMr at h ⊢
  simp only [n5, n6, n7, n8, n9, n10, n11, n12, n13, n14, n15, n16, n17, n18, n19, n20, n21, n22, n23, n24, n25, n26, n27, n28, n29, n30, n31, n32, t2, t3, t4, t5, t6, m1, m2, m3, m4, m5, m6, m7, m13, m14, m15, m16, m17, k4, k5, k6, k7, k8, k9, k10, k11, G2, G3, G4, G5, G6, G7, G8, G9, min2]
  exact h
theorem bss {α β : Type} {o : Option α} {F : α → Option β} {v : β} (h : o.bind F = some v) : ∃ r, F r = some v := by
  cases o with
  | none => cases h
  | some r => exact ⟨r, h⟩
theorem f4_shape {n : Nat → Int32} {t : Nat → Nat → Int32} {on : Int64} {i1 : Int32} {i2 : Int32} {i3 : Int32} {v : Int32 × (Nat → Int32) × (Nat → Nat → Int32) × Int64} (h : gL_shape n t on i1 i2 i3 = some v) : yFC n v.2.1 t v.2.2.1 := by
  unfold gL_shape at h
  obtain ⟨r, rfl⟩ := bsi h
  refine ⟨fun i h1 h2 => ?_, fun i h1 => ?_⟩
  · dsimp only
    try (repeat rw [va_ne (by omega)])
  · dsimp only
    try (repeat rw [va_ne (by omega)])
theorem m4_shape {sh : Nat} {m : Nat → Int32} {L : Int64} {k : Nat → Nat} {G : Nat → Nat → Nat → Int32} {i1 : Int32} {i2 : Int32} {i3 : Int32} {y : Int32 × Nat × (Nat → Int32) × Int64 × (Nat → Nat) × (Nat → Nat → Nat → Int32)} (h : gX9w_shape sh m L k G i1 i2 i3 = some y) : yFM sh y.2.1 m y.2.2.1 L y.2.2.2.1 k y.2.2.2.2.1 G y.2.2.2.2.2 := by
  match sh, h with
  | 0, h =>
    unfold gX9w_shape at h
    dsimp only at h
    obtain ⟨r, rfl⟩ := bsi h
    refine ⟨by dsimp only; omega, fun i h1 h2 => ?_, fun i h1 => ?_, rfl, fun i h1 => ?_, fun i h1 => ?_⟩
    · dsimp only
      try (repeat rw [va_ne (by omega)])
    · dsimp only
      try (repeat rw [va_ne (by omega)])
    · dsimp only
      try (repeat rw [va_ne (by omega)])
    · dsimp only
      try (repeat rw [va_ne (by omega)])
  | 1, h =>
    unfold gX9w_shape at h
    dsimp only at h
    obtain ⟨r, rfl⟩ := bsi h
    refine ⟨by dsimp only; omega, fun i h1 h2 => ?_, fun i h1 => ?_, rfl, fun i h1 => ?_, fun i h1 => ?_⟩
    · dsimp only
      try (repeat rw [va_ne (by omega)])
    · dsimp only
      try (repeat rw [va_ne (by omega)])
    · dsimp only
      try (repeat rw [va_ne (by omega)])
    · dsimp only
      try (repeat rw [va_ne (by omega)])
  | z + 2, h =>
    unfold gX9w_shape at h
    dsimp only at h
    obtain ⟨r, rfl⟩ := bsi h
    refine ⟨by dsimp only; omega, fun i h1 h2 => ?_, fun i h1 => ?_, rfl, fun i h1 => ?_, fun i h1 => ?_⟩
    · dsimp only
      try (repeat rw [va_ne (by omega)])
    · dsimp only
      try (repeat rw [va_ne (by omega)])
    · dsimp only
      try (repeat rw [va_ne (by omega)])
    · dsimp only
      try (repeat rw [va_ne (by omega)])
theorem f4_left {n : Nat → Int32} {t : Nat → Nat → Int32} {on : Int64} {i1 : Int32} {i2 : Int32} {i3 : Int32} {v : Int32 × (Nat → Int32) × (Nat → Nat → Int32) × Int64} (h : gL_left n t on i1 i2 i3 = some v) : yFC n v.2.1 t v.2.2.1 := by
  unfold gL_left at h
  obtain ⟨r, rfl⟩ := bsi h
  refine ⟨fun i h1 h2 => ?_, fun i h1 => ?_⟩
  · dsimp only
    try (repeat rw [va_ne (by omega)])
  · dsimp only
    try (repeat rw [va_ne (by omega)])
theorem m4_left {sh : Nat} {m : Nat → Int32} {L : Int64} {k : Nat → Nat} {G : Nat → Nat → Nat → Int32} {i1 : Int32} {i2 : Int32} {i3 : Int32} {y : Int32 × Nat × (Nat → Int32) × Int64 × (Nat → Nat) × (Nat → Nat → Nat → Int32)} (h : gX9w_left sh m L k G i1 i2 i3 = some y) : yFM sh y.2.1 m y.2.2.1 L y.2.2.2.1 k y.2.2.2.2.1 G y.2.2.2.2.2 := by
  match sh, h with
  | 0, h =>
    unfold gX9w_left at h
    dsimp only at h
    obtain ⟨r, rfl⟩ := bsi h
    refine ⟨by dsimp only; omega, fun i h1 h2 => ?_, fun i h1 => ?_, rfl, fun i h1 => ?_, fun i h1 => ?_⟩
    · dsimp only
      try (repeat rw [va_ne (by omega)])
    · dsimp only
      try (repeat rw [va_ne (by omega)])
    · dsimp only
      try (repeat rw [va_ne (by omega)])
    · dsimp only
      try (repeat rw [va_ne (by omega)])
  | 1, h =>
    unfold gX9w_left at h
    dsimp only at h
    obtain ⟨r, rfl⟩ := bsi h
    refine ⟨by dsimp only; omega, fun i h1 h2 => ?_, fun i h1 => ?_, rfl, fun i h1 => ?_, fun i h1 => ?_⟩
    · dsimp only
      try (repeat rw [va_ne (by omega)])
    · dsimp only
      try (repeat rw [va_ne (by omega)])
    · dsimp only
      try (repeat rw [va_ne (by omega)])
    · dsimp only
      try (repeat rw [va_ne (by omega)])
  | z + 2, h =>
    unfold gX9w_left at h
    dsimp only at h
    obtain ⟨r, rfl⟩ := bsi h
    refine ⟨by dsimp only; omega, fun i h1 h2 => ?_, fun i h1 => ?_, rfl, fun i h1 => ?_, fun i h1 => ?_⟩
    · dsimp only
      try (repeat rw [va_ne (by omega)])
    · dsimp only
      try (repeat rw [va_ne (by omega)])
    · dsimp only
      try (repeat rw [va_ne (by omega)])
    · dsimp only
      try (repeat rw [va_ne (by omega)])
theorem f4_top {n : Nat → Int32} {t : Nat → Nat → Int32} {on : Int64} {i1 : Int32} {i2 : Int32} {i3 : Int32} {v : Int32 × (Nat → Int32) × (Nat → Nat → Int32) × Int64} (h : gL_top n t on i1 i2 i3 = some v) : yFC n v.2.1 t v.2.2.1 := by
  unfold gL_top at h
  obtain ⟨r, rfl⟩ := bsi h
  refine ⟨fun i h1 h2 => ?_, fun i h1 => ?_⟩
  · dsimp only
    try (repeat rw [va_ne (by omega)])
  · dsimp only
    try (repeat rw [va_ne (by omega)])
theorem m4_top {sh : Nat} {m : Nat → Int32} {L : Int64} {k : Nat → Nat} {G : Nat → Nat → Nat → Int32} {i1 : Int32} {i2 : Int32} {i3 : Int32} {y : Int32 × Nat × (Nat → Int32) × Int64 × (Nat → Nat) × (Nat → Nat → Nat → Int32)} (h : gX9w_top sh m L k G i1 i2 i3 = some y) : yFM sh y.2.1 m y.2.2.1 L y.2.2.2.1 k y.2.2.2.2.1 G y.2.2.2.2.2 := by
  match sh, h with
  | 0, h =>
    unfold gX9w_top at h
    dsimp only at h
    obtain ⟨r, rfl⟩ := bsi h
    refine ⟨by dsimp only; omega, fun i h1 h2 => ?_, fun i h1 => ?_, rfl, fun i h1 => ?_, fun i h1 => ?_⟩
    · dsimp only
      try (repeat rw [va_ne (by omega)])
    · dsimp only
      try (repeat rw [va_ne (by omega)])
    · dsimp only
      try (repeat rw [va_ne (by omega)])
    · dsimp only
      try (repeat rw [va_ne (by omega)])
  | 1, h =>
    unfold gX9w_top at h
    dsimp only at h
    obtain ⟨r, rfl⟩ := bsi h
    refine ⟨by dsimp only; omega, fun i h1 h2 => ?_, fun i h1 => ?_, rfl, fun i h1 => ?_, fun i h1 => ?_⟩
    · dsimp only
      try (repeat rw [va_ne (by omega)])
    · dsimp only
      try (repeat rw [va_ne (by omega)])
    · dsimp only
      try (repeat rw [va_ne (by omega)])
    · dsimp only
      try (repeat rw [va_ne (by omega)])
  | z + 2, h =>
    unfold gX9w_top at h
    dsimp only at h
    obtain ⟨r, rfl⟩ := bsi h
    refine ⟨by dsimp only; omega, fun i h1 h2 => ?_, fun i h1 => ?_, rfl, fun i h1 => ?_, fun i h1 => ?_⟩
    · dsimp only
      try (repeat rw [va_ne (by omega)])
    · dsimp only
      try (repeat rw [va_ne (by omega)])
    · dsimp only
      try (repeat rw [va_ne (by omega)])
    · dsimp only
      try (repeat rw [va_ne (by omega)])
theorem f4_kind {n : Nat → Int32} {t : Nat → Nat → Int32} {on : Int64} {i1 : Int32} {v : Int32 × (Nat → Int32) × (Nat → Nat → Int32) × Int64} (h : gL_kind n t on i1 = some v) : yFC n v.2.1 t v.2.2.1 := by
  unfold gL_kind at h
  obtain ⟨r, rfl⟩ := bsi h
  refine ⟨fun i h1 h2 => ?_, fun i h1 => ?_⟩
  · dsimp only
    try (repeat rw [va_ne (by omega)])
  · dsimp only
    try (repeat rw [va_ne (by omega)])
theorem m4_kind {sh : Nat} {m : Nat → Int32} {L : Int64} {k : Nat → Nat} {G : Nat → Nat → Nat → Int32} {i1 : Int32} {y : Int32 × Nat × (Nat → Int32) × Int64 × (Nat → Nat) × (Nat → Nat → Nat → Int32)} (h : gX9w_kind sh m L k G i1 = some y) : yFM sh y.2.1 m y.2.2.1 L y.2.2.2.1 k y.2.2.2.2.1 G y.2.2.2.2.2 := by
  match sh, h with
  | 0, h =>
    unfold gX9w_kind at h
    dsimp only at h
    obtain ⟨r, rfl⟩ := bsi h
    refine ⟨by dsimp only; omega, fun i h1 h2 => ?_, fun i h1 => ?_, rfl, fun i h1 => ?_, fun i h1 => ?_⟩
    · dsimp only
      try (repeat rw [va_ne (by omega)])
    · dsimp only
      try (repeat rw [va_ne (by omega)])
    · dsimp only
      try (repeat rw [va_ne (by omega)])
    · dsimp only
      try (repeat rw [va_ne (by omega)])
  | 1, h =>
    unfold gX9w_kind at h
    dsimp only at h
    obtain ⟨r, rfl⟩ := bsi h
    refine ⟨by dsimp only; omega, fun i h1 h2 => ?_, fun i h1 => ?_, rfl, fun i h1 => ?_, fun i h1 => ?_⟩
    · dsimp only
      try (repeat rw [va_ne (by omega)])
    · dsimp only
      try (repeat rw [va_ne (by omega)])
    · dsimp only
      try (repeat rw [va_ne (by omega)])
    · dsimp only
      try (repeat rw [va_ne (by omega)])
  | z + 2, h =>
    unfold gX9w_kind at h
    dsimp only at h
    obtain ⟨r, rfl⟩ := bsi h
    refine ⟨by dsimp only; omega, fun i h1 h2 => ?_, fun i h1 => ?_, rfl, fun i h1 => ?_, fun i h1 => ?_⟩
    · dsimp only
      try (repeat rw [va_ne (by omega)])
    · dsimp only
      try (repeat rw [va_ne (by omega)])
    · dsimp only
      try (repeat rw [va_ne (by omega)])
    · dsimp only
      try (repeat rw [va_ne (by omega)])
theorem f4_checked {n : Nat → Int32} {t : Nat → Nat → Int32} {on : Int64} {i1 : Int32} {v : Int32 × (Nat → Int32) × (Nat → Nat → Int32) × Int64} (h : gL_checked n t on i1 = some v) : yFC n v.2.1 t v.2.2.1 := by
  unfold gL_checked at h
  obtain ⟨r, rfl⟩ := bsi h
  refine ⟨fun i h1 h2 => ?_, fun i h1 => ?_⟩
  · dsimp only
    try (repeat rw [va_ne (by omega)])
  · dsimp only
    try (repeat rw [va_ne (by omega)])
theorem m4_checked {sh : Nat} {m : Nat → Int32} {L : Int64} {k : Nat → Nat} {G : Nat → Nat → Nat → Int32} {i1 : Int32} {y : Int32 × Nat × (Nat → Int32) × Int64 × (Nat → Nat) × (Nat → Nat → Nat → Int32)} (h : gX9w_checked sh m L k G i1 = some y) : yFM sh y.2.1 m y.2.2.1 L y.2.2.2.1 k y.2.2.2.2.1 G y.2.2.2.2.2 := by
  match sh, h with
  | 0, h =>
    unfold gX9w_checked at h
    dsimp only at h
    obtain ⟨r, rfl⟩ := bsi h
    refine ⟨by dsimp only; omega, fun i h1 h2 => ?_, fun i h1 => ?_, rfl, fun i h1 => ?_, fun i h1 => ?_⟩
    · dsimp only
      try (repeat rw [va_ne (by omega)])
    · dsimp only
      try (repeat rw [va_ne (by omega)])
    · dsimp only
      try (repeat rw [va_ne (by omega)])
    · dsimp only
      try (repeat rw [va_ne (by omega)])
  | 1, h =>
    unfold gX9w_checked at h
    dsimp only at h
    obtain ⟨r, rfl⟩ := bsi h
    refine ⟨by dsimp only; omega, fun i h1 h2 => ?_, fun i h1 => ?_, rfl, fun i h1 => ?_, fun i h1 => ?_⟩
    · dsimp only
      try (repeat rw [va_ne (by omega)])
    · dsimp only
      try (repeat rw [va_ne (by omega)])
    · dsimp only
      try (repeat rw [va_ne (by omega)])
    · dsimp only
      try (repeat rw [va_ne (by omega)])
  | z + 2, h =>
    unfold gX9w_checked at h
    dsimp only at h
    obtain ⟨r, rfl⟩ := bsi h
    refine ⟨by dsimp only; omega, fun i h1 h2 => ?_, fun i h1 => ?_, rfl, fun i h1 => ?_, fun i h1 => ?_⟩
    · dsimp only
      try (repeat rw [va_ne (by omega)])
    · dsimp only
      try (repeat rw [va_ne (by omega)])
    · dsimp only
      try (repeat rw [va_ne (by omega)])
    · dsimp only
      try (repeat rw [va_ne (by omega)])
theorem f4_mesh {n : Nat → Int32} {t : Nat → Nat → Int32} {on : Int64} {i1 : Int32} {v : Int32 × (Nat → Int32) × (Nat → Nat → Int32) × Int64} (h : gL_mesh n t on i1 = some v) : yFC n v.2.1 t v.2.2.1 := by
  unfold gL_mesh at h
  obtain ⟨r, rfl⟩ := bsi h
  refine ⟨fun i h1 h2 => ?_, fun i h1 => ?_⟩
  · dsimp only
    try (repeat rw [va_ne (by omega)])
  · dsimp only
    try (repeat rw [va_ne (by omega)])
theorem m4_mesh {sh : Nat} {m : Nat → Int32} {L : Int64} {k : Nat → Nat} {G : Nat → Nat → Nat → Int32} {i1 : Int32} {y : Int32 × Nat × (Nat → Int32) × Int64 × (Nat → Nat) × (Nat → Nat → Nat → Int32)} (h : gX9w_mesh sh m L k G i1 = some y) : yFM sh y.2.1 m y.2.2.1 L y.2.2.2.1 k y.2.2.2.2.1 G y.2.2.2.2.2 := by
  match sh, h with
  | 0, h =>
    unfold gX9w_mesh at h
    dsimp only at h
    obtain ⟨r, rfl⟩ := bsi h
    refine ⟨by dsimp only; omega, fun i h1 h2 => ?_, fun i h1 => ?_, rfl, fun i h1 => ?_, fun i h1 => ?_⟩
    · dsimp only
      try (repeat rw [va_ne (by omega)])
    · dsimp only
      try (repeat rw [va_ne (by omega)])
    · dsimp only
      try (repeat rw [va_ne (by omega)])
    · dsimp only
      try (repeat rw [va_ne (by omega)])
  | 1, h =>
    unfold gX9w_mesh at h
    dsimp only at h
    obtain ⟨r, rfl⟩ := bsi h
    refine ⟨by dsimp only; omega, fun i h1 h2 => ?_, fun i h1 => ?_, rfl, fun i h1 => ?_, fun i h1 => ?_⟩
    · dsimp only
      try (repeat rw [va_ne (by omega)])
    · dsimp only
      try (repeat rw [va_ne (by omega)])
    · dsimp only
      try (repeat rw [va_ne (by omega)])
    · dsimp only
      try (repeat rw [va_ne (by omega)])
  | z + 2, h =>
    unfold gX9w_mesh at h
    dsimp only at h
    obtain ⟨r, rfl⟩ := bsi h
    refine ⟨by dsimp only; omega, fun i h1 h2 => ?_, fun i h1 => ?_, rfl, fun i h1 => ?_, fun i h1 => ?_⟩
    · dsimp only
      try (repeat rw [va_ne (by omega)])
    · dsimp only
      try (repeat rw [va_ne (by omega)])
    · dsimp only
      try (repeat rw [va_ne (by omega)])
    · dsimp only
      try (repeat rw [va_ne (by omega)])
theorem f4_ofCell {n : Nat → Int32} {t : Nat → Nat → Int32} {on : Int64} {i1 : Int32} {i2 : Int32} {i3 : Int32} {v : Int32 × (Nat → Int32) × (Nat → Nat → Int32) × Int64} (h : gL_ofCell n t on i1 i2 i3 = some v) : yFC n v.2.1 t v.2.2.1 := by
  unfold gL_ofCell at h
  obtain ⟨r, rfl⟩ := bsi h
  refine ⟨fun i h1 h2 => ?_, fun i h1 => ?_⟩
  · dsimp only
    try (repeat rw [va_ne (by omega)])
  · dsimp only
    try (repeat rw [va_ne (by omega)])
theorem m4_ofCell {sh : Nat} {m : Nat → Int32} {L : Int64} {k : Nat → Nat} {G : Nat → Nat → Nat → Int32} {i1 : Int32} {i2 : Int32} {i3 : Int32} {y : Int32 × Nat × (Nat → Int32) × Int64 × (Nat → Nat) × (Nat → Nat → Nat → Int32)} (h : gX9w_ofCell sh m L k G i1 i2 i3 = some y) : yFM sh y.2.1 m y.2.2.1 L y.2.2.2.1 k y.2.2.2.2.1 G y.2.2.2.2.2 := by
  match sh, h with
  | 0, h =>
    unfold gX9w_ofCell at h
    dsimp only at h
    obtain ⟨r, rfl⟩ := bsi h
    refine ⟨by dsimp only; omega, fun i h1 h2 => ?_, fun i h1 => ?_, rfl, fun i h1 => ?_, fun i h1 => ?_⟩
    · dsimp only
      try (repeat rw [va_ne (by omega)])
    · dsimp only
      try (repeat rw [va_ne (by omega)])
    · dsimp only
      try (repeat rw [va_ne (by omega)])
    · dsimp only
      try (repeat rw [va_ne (by omega)])
  | 1, h =>
    unfold gX9w_ofCell at h
    dsimp only at h
    obtain ⟨r, rfl⟩ := bsi h
    refine ⟨by dsimp only; omega, fun i h1 h2 => ?_, fun i h1 => ?_, rfl, fun i h1 => ?_, fun i h1 => ?_⟩
    · dsimp only
      try (repeat rw [va_ne (by omega)])
    · dsimp only
      try (repeat rw [va_ne (by omega)])
    · dsimp only
      try (repeat rw [va_ne (by omega)])
    · dsimp only
      try (repeat rw [va_ne (by omega)])
  | z + 2, h =>
    unfold gX9w_ofCell at h
    dsimp only at h
    obtain ⟨r, rfl⟩ := bsi h
    refine ⟨by dsimp only; omega, fun i h1 h2 => ?_, fun i h1 => ?_, rfl, fun i h1 => ?_, fun i h1 => ?_⟩
    · dsimp only
      try (repeat rw [va_ne (by omega)])
    · dsimp only
      try (repeat rw [va_ne (by omega)])
    · dsimp only
      try (repeat rw [va_ne (by omega)])
    · dsimp only
      try (repeat rw [va_ne (by omega)])
theorem f4_result {n : Nat → Int32} {t : Nat → Nat → Int32} {on : Int64} {i1 : Int32} {i2 : Int32} {v : Int32 × (Nat → Int32) × (Nat → Nat → Int32) × Int64} (h : gL_result n t on i1 i2 = some v) : yFC n v.2.1 t v.2.2.1 := by
  unfold gL_result at h
  obtain ⟨r, rfl⟩ := bsi h
  refine ⟨fun i h1 h2 => ?_, fun i h1 => ?_⟩
  · dsimp only
    try (repeat rw [va_ne (by omega)])
  · dsimp only
    try (repeat rw [va_ne (by omega)])
theorem m4_result {sh : Nat} {m : Nat → Int32} {L : Int64} {k : Nat → Nat} {G : Nat → Nat → Nat → Int32} {i1 : Int32} {i2 : Int32} {y : Int32 × Nat × (Nat → Int32) × Int64 × (Nat → Nat) × (Nat → Nat → Nat → Int32)} (h : gX9w_result sh m L k G i1 i2 = some y) : yFM sh y.2.1 m y.2.2.1 L y.2.2.2.1 k y.2.2.2.2.1 G y.2.2.2.2.2 := by
  match sh, h with
  | 0, h =>
    unfold gX9w_result at h
    dsimp only at h
    obtain ⟨r, rfl⟩ := bsi h
    refine ⟨by dsimp only; omega, fun i h1 h2 => ?_, fun i h1 => ?_, rfl, fun i h1 => ?_, fun i h1 => ?_⟩
    · dsimp only
      try (repeat rw [va_ne (by omega)])
    · dsimp only
      try (repeat rw [va_ne (by omega)])
    · dsimp only
      try (repeat rw [va_ne (by omega)])
    · dsimp only
      try (repeat rw [va_ne (by omega)])
  | 1, h =>
    unfold gX9w_result at h
    dsimp only at h
    obtain ⟨r, rfl⟩ := bsi h
    refine ⟨by dsimp only; omega, fun i h1 h2 => ?_, fun i h1 => ?_, rfl, fun i h1 => ?_, fun i h1 => ?_⟩
    · dsimp only
      try (repeat rw [va_ne (by omega)])
    · dsimp only
      try (repeat rw [va_ne (by omega)])
    · dsimp only
      try (repeat rw [va_ne (by omega)])
    · dsimp only
      try (repeat rw [va_ne (by omega)])
  | z + 2, h =>
    unfold gX9w_result at h
    dsimp only at h
    obtain ⟨r, rfl⟩ := bsi h
    refine ⟨by dsimp only; omega, fun i h1 h2 => ?_, fun i h1 => ?_, rfl, fun i h1 => ?_, fun i h1 => ?_⟩
    · dsimp only
      try (repeat rw [va_ne (by omega)])
    · dsimp only
      try (repeat rw [va_ne (by omega)])
    · dsimp only
      try (repeat rw [va_ne (by omega)])
    · dsimp only
      try (repeat rw [va_ne (by omega)])
theorem f4_plain {n : Nat → Int32} {t : Nat → Nat → Int32} {on : Int64} {i1 : Int32} {i2 : Int32} {v : Int32 × (Nat → Int32) × (Nat → Nat → Int32) × Int64} (h : gL_plain n t on i1 i2 = some v) : yFC n v.2.1 t v.2.2.1 := by
  unfold gL_plain at h
  obtain ⟨r, rfl⟩ := bsi h
  refine ⟨fun i h1 h2 => ?_, fun i h1 => ?_⟩
  · dsimp only
    try (repeat rw [va_ne (by omega)])
  · dsimp only
    try (repeat rw [va_ne (by omega)])
theorem m4_plain {sh : Nat} {m : Nat → Int32} {L : Int64} {k : Nat → Nat} {G : Nat → Nat → Nat → Int32} {i1 : Int32} {i2 : Int32} {y : Int32 × Nat × (Nat → Int32) × Int64 × (Nat → Nat) × (Nat → Nat → Nat → Int32)} (h : gX9w_plain sh m L k G i1 i2 = some y) : yFM sh y.2.1 m y.2.2.1 L y.2.2.2.1 k y.2.2.2.2.1 G y.2.2.2.2.2 := by
  match sh, h with
  | 0, h =>
    unfold gX9w_plain at h
    dsimp only at h
    obtain ⟨r, rfl⟩ := bsi h
    refine ⟨by dsimp only; omega, fun i h1 h2 => ?_, fun i h1 => ?_, rfl, fun i h1 => ?_, fun i h1 => ?_⟩
    · dsimp only
      try (repeat rw [va_ne (by omega)])
    · dsimp only
      try (repeat rw [va_ne (by omega)])
    · dsimp only
      try (repeat rw [va_ne (by omega)])
    · dsimp only
      try (repeat rw [va_ne (by omega)])
  | 1, h =>
    unfold gX9w_plain at h
    dsimp only at h
    obtain ⟨r, rfl⟩ := bsi h
    refine ⟨by dsimp only; omega, fun i h1 h2 => ?_, fun i h1 => ?_, rfl, fun i h1 => ?_, fun i h1 => ?_⟩
    · dsimp only
      try (repeat rw [va_ne (by omega)])
    · dsimp only
      try (repeat rw [va_ne (by omega)])
    · dsimp only
      try (repeat rw [va_ne (by omega)])
    · dsimp only
      try (repeat rw [va_ne (by omega)])
  | z + 2, h =>
    unfold gX9w_plain at h
    dsimp only at h
    obtain ⟨r, rfl⟩ := bsi h
    refine ⟨by dsimp only; omega, fun i h1 h2 => ?_, fun i h1 => ?_, rfl, fun i h1 => ?_, fun i h1 => ?_⟩
    · dsimp only
      try (repeat rw [va_ne (by omega)])
    · dsimp only
      try (repeat rw [va_ne (by omega)])
    · dsimp only
      try (repeat rw [va_ne (by omega)])
    · dsimp only
      try (repeat rw [va_ne (by omega)])
theorem f4_beats {n : Nat → Int32} {t : Nat → Nat → Int32} {on : Int64} {i1 : Int32} {i2 : Int32} {v : Int32 × (Nat → Int32) × (Nat → Nat → Int32) × Int64} (h : gL_beats n t on i1 i2 = some v) : yFC n v.2.1 t v.2.2.1 := by
  unfold gL_beats at h
  obtain ⟨r, rfl⟩ := bsi h
  refine ⟨fun i h1 h2 => ?_, fun i h1 => ?_⟩
  · dsimp only
    try (repeat rw [va_ne (by omega)])
  · dsimp only
    try (repeat rw [va_ne (by omega)])
theorem m4_beats {sh : Nat} {m : Nat → Int32} {L : Int64} {k : Nat → Nat} {G : Nat → Nat → Nat → Int32} {i1 : Int32} {i2 : Int32} {y : Int32 × Nat × (Nat → Int32) × Int64 × (Nat → Nat) × (Nat → Nat → Nat → Int32)} (h : gX9w_beats sh m L k G i1 i2 = some y) : yFM sh y.2.1 m y.2.2.1 L y.2.2.2.1 k y.2.2.2.2.1 G y.2.2.2.2.2 := by
  match sh, h with
  | 0, h =>
    unfold gX9w_beats at h
    dsimp only at h
    obtain ⟨r, rfl⟩ := bsi h
    refine ⟨by dsimp only; omega, fun i h1 h2 => ?_, fun i h1 => ?_, rfl, fun i h1 => ?_, fun i h1 => ?_⟩
    · dsimp only
      try (repeat rw [va_ne (by omega)])
    · dsimp only
      try (repeat rw [va_ne (by omega)])
    · dsimp only
      try (repeat rw [va_ne (by omega)])
    · dsimp only
      try (repeat rw [va_ne (by omega)])
  | 1, h =>
    unfold gX9w_beats at h
    dsimp only at h
    obtain ⟨r, rfl⟩ := bsi h
    refine ⟨by dsimp only; omega, fun i h1 h2 => ?_, fun i h1 => ?_, rfl, fun i h1 => ?_, fun i h1 => ?_⟩
    · dsimp only
      try (repeat rw [va_ne (by omega)])
    · dsimp only
      try (repeat rw [va_ne (by omega)])
    · dsimp only
      try (repeat rw [va_ne (by omega)])
    · dsimp only
      try (repeat rw [va_ne (by omega)])
  | z + 2, h =>
    unfold gX9w_beats at h
    dsimp only at h
    obtain ⟨r, rfl⟩ := bsi h
    refine ⟨by dsimp only; omega, fun i h1 h2 => ?_, fun i h1 => ?_, rfl, fun i h1 => ?_, fun i h1 => ?_⟩
    · dsimp only
      try (repeat rw [va_ne (by omega)])
    · dsimp only
      try (repeat rw [va_ne (by omega)])
    · dsimp only
      try (repeat rw [va_ne (by omega)])
    · dsimp only
      try (repeat rw [va_ne (by omega)])
theorem f4_best {n : Nat → Int32} {t : Nat → Nat → Int32} {on : Int64} {i1 : Int32} {v : Int32 × (Nat → Int32) × (Nat → Nat → Int32) × Int64} (h : gL_best n t on i1 = some v) : yFC n v.2.1 t v.2.2.1 := by
  unfold gL_best at h
  obtain ⟨r, rfl⟩ := bsi h
  refine ⟨fun i h1 h2 => ?_, fun i h1 => ?_⟩
  · dsimp only
    try (repeat rw [va_ne (by omega)])
  · dsimp only
    try (repeat rw [va_ne (by omega)])
theorem m4_best {sh : Nat} {m : Nat → Int32} {L : Int64} {k : Nat → Nat} {G : Nat → Nat → Nat → Int32} {i1 : Int32} {y : Int32 × Nat × (Nat → Int32) × Int64 × (Nat → Nat) × (Nat → Nat → Nat → Int32)} (h : gX9w_best sh m L k G i1 = some y) : yFM sh y.2.1 m y.2.2.1 L y.2.2.2.1 k y.2.2.2.2.1 G y.2.2.2.2.2 := by
  match sh, h with
  | 0, h =>
    unfold gX9w_best at h
    dsimp only at h
    obtain ⟨r, rfl⟩ := bsi h
    refine ⟨by dsimp only; omega, fun i h1 h2 => ?_, fun i h1 => ?_, rfl, fun i h1 => ?_, fun i h1 => ?_⟩
    · dsimp only
      try (repeat rw [va_ne (by omega)])
    · dsimp only
      try (repeat rw [va_ne (by omega)])
    · dsimp only
      try (repeat rw [va_ne (by omega)])
    · dsimp only
      try (repeat rw [va_ne (by omega)])
  | 1, h =>
    unfold gX9w_best at h
    dsimp only at h
    obtain ⟨r, rfl⟩ := bsi h
    refine ⟨by dsimp only; omega, fun i h1 h2 => ?_, fun i h1 => ?_, rfl, fun i h1 => ?_, fun i h1 => ?_⟩
    · dsimp only
      try (repeat rw [va_ne (by omega)])
    · dsimp only
      try (repeat rw [va_ne (by omega)])
    · dsimp only
      try (repeat rw [va_ne (by omega)])
    · dsimp only
      try (repeat rw [va_ne (by omega)])
  | z + 2, h =>
    unfold gX9w_best at h
    dsimp only at h
    obtain ⟨r, rfl⟩ := bsi h
    refine ⟨by dsimp only; omega, fun i h1 h2 => ?_, fun i h1 => ?_, rfl, fun i h1 => ?_, fun i h1 => ?_⟩
    · dsimp only
      try (repeat rw [va_ne (by omega)])
    · dsimp only
      try (repeat rw [va_ne (by omega)])
    · dsimp only
      try (repeat rw [va_ne (by omega)])
    · dsimp only
      try (repeat rw [va_ne (by omega)])
theorem s4_shape {W : Nat} {n : Nat → Int32} {t : Nat → Nat → Int32} {sh : Nat} {m : Nat → Int32} {L : Int64} {k : Nat → Nat} {G : Nat → Nat → Nat → Int32} {on : Int64} {i1 : Int32} {i2 : Int32} {i3 : Int32} (h : yR4 W n t sh m L k G) : ∃ x y, gL_shape n t on i1 i2 i3 = some x ∧ gX9w_shape sh m L k G i1 i2 i3 = some y ∧ yR4 W x.2.1 x.2.2.1 y.2.1 y.2.2.1 y.2.2.2.1 y.2.2.2.2.1 y.2.2.2.2.2 ∧ y.2.2.1 0 = x.1 ∧ (x.1 = 0 → x.2.2.2 = y.1.toInt64) := by
  obtain ⟨x, y, ex, ey, hR, ht, ha⟩ := sim_shape (L := L) (on := on) (i1 := i1) (i2 := i2) (i3 := i3) h.1
  exact ⟨x, y, ex, ey, ⟨hR, yRest_congr (f4_shape ex) (m4_shape ey) h.2⟩, ht, ha⟩
theorem s4_left {W : Nat} {n : Nat → Int32} {t : Nat → Nat → Int32} {sh : Nat} {m : Nat → Int32} {L : Int64} {k : Nat → Nat} {G : Nat → Nat → Nat → Int32} {on : Int64} {i1 : Int32} {i2 : Int32} {i3 : Int32} (h : yR4 W n t sh m L k G) : ∃ x y, gL_left n t on i1 i2 i3 = some x ∧ gX9w_left sh m L k G i1 i2 i3 = some y ∧ yR4 W x.2.1 x.2.2.1 y.2.1 y.2.2.1 y.2.2.2.1 y.2.2.2.2.1 y.2.2.2.2.2 ∧ y.2.2.1 0 = x.1 ∧ (x.1 = 0 → x.2.2.2 = y.1.toInt64) := by
  obtain ⟨x, y, ex, ey, hR, ht, ha⟩ := sim_left (L := L) (on := on) (i1 := i1) (i2 := i2) (i3 := i3) h.1
  exact ⟨x, y, ex, ey, ⟨hR, yRest_congr (f4_left ex) (m4_left ey) h.2⟩, ht, ha⟩
theorem s4_top {W : Nat} {n : Nat → Int32} {t : Nat → Nat → Int32} {sh : Nat} {m : Nat → Int32} {L : Int64} {k : Nat → Nat} {G : Nat → Nat → Nat → Int32} {on : Int64} {i1 : Int32} {i2 : Int32} {i3 : Int32} (h : yR4 W n t sh m L k G) : ∃ x y, gL_top n t on i1 i2 i3 = some x ∧ gX9w_top sh m L k G i1 i2 i3 = some y ∧ yR4 W x.2.1 x.2.2.1 y.2.1 y.2.2.1 y.2.2.2.1 y.2.2.2.2.1 y.2.2.2.2.2 ∧ y.2.2.1 0 = x.1 ∧ (x.1 = 0 → x.2.2.2 = y.1.toInt64) := by
  obtain ⟨x, y, ex, ey, hR, ht, ha⟩ := sim_top (L := L) (on := on) (i1 := i1) (i2 := i2) (i3 := i3) h.1
  exact ⟨x, y, ex, ey, ⟨hR, yRest_congr (f4_top ex) (m4_top ey) h.2⟩, ht, ha⟩
theorem s4_kind {W : Nat} {n : Nat → Int32} {t : Nat → Nat → Int32} {sh : Nat} {m : Nat → Int32} {L : Int64} {k : Nat → Nat} {G : Nat → Nat → Nat → Int32} {on : Int64} {i1 : Int32} (h : yR4 W n t sh m L k G) : ∃ x y, gL_kind n t on i1 = some x ∧ gX9w_kind sh m L k G i1 = some y ∧ yR4 W x.2.1 x.2.2.1 y.2.1 y.2.2.1 y.2.2.2.1 y.2.2.2.2.1 y.2.2.2.2.2 ∧ y.2.2.1 0 = x.1 ∧ (x.1 = 0 → x.2.2.2 = y.1.toInt64) := by
  obtain ⟨x, y, ex, ey, hR, ht, ha⟩ := sim_kind (L := L) (on := on) (i1 := i1) h.1
  exact ⟨x, y, ex, ey, ⟨hR, yRest_congr (f4_kind ex) (m4_kind ey) h.2⟩, ht, ha⟩
theorem s4_checked {W : Nat} {n : Nat → Int32} {t : Nat → Nat → Int32} {sh : Nat} {m : Nat → Int32} {L : Int64} {k : Nat → Nat} {G : Nat → Nat → Nat → Int32} {on : Int64} {i1 : Int32} (h : yR4 W n t sh m L k G) (hb : Bo i1) : ∃ x y, gL_checked n t on i1 = some x ∧ gX9w_checked sh m L k G i1 = some y ∧ yR4 W x.2.1 x.2.2.1 y.2.1 y.2.2.1 y.2.2.2.1 y.2.2.2.2.1 y.2.2.2.2.2 ∧ y.2.2.1 0 = x.1 ∧ (x.1 = 0 → x.2.2.2 = y.1.toInt64) ∧ Bo y.1 := by
  obtain ⟨x, y, ex, ey, hR, ht, ha, hy⟩ := sim_checked (L := L) (on := on) (i1 := i1) h.1 hb
  exact ⟨x, y, ex, ey, ⟨hR, yRest_congr (f4_checked ex) (m4_checked ey) h.2⟩, ht, ha, hy⟩
theorem eM_beats {sh r kk c g s : Nat} {m : Nat → Int32} {L : Int64} {k : Nat → Nat} {G : Nat → Nat → Nat → Int32} {i1 : Int32} {i2 : Int32} (h : yMw sh m k G r kk c g s) : gX9w_beats sh m L k G i1 i2 = some (yAns (if yIn i1 1 31 = true ∧ yIn i2 1 31 = true then (if yCross (G 3) i1.toNatClampNeg i2.toNatClampNeg = true then -1 else nI (yBeats (r + s) (c + s) (yPop i1.toNatClampNeg) (yPop i2.toNatClampNeg) (yJst r kk c g (G 0) (G 1))), 0) else ((0 : Int32), (1 : Int32))) sh m L k G) := by
  obtain ⟨J, ⟨h8, h9, h10, h11, h12, q0, q1, q2, q3⟩, b1, b2, q4, q5, hr⟩ := id h
  match sh with
  | 0 =>
    unfold gX9w_beats
    dsimp only
    try simp only [h8, h9, h10, h11, h12, q0, q1, q2, q3]
    exact bto (e_beats_i J) rfl
  | 1 =>
    unfold gX9w_beats
    dsimp only
    try simp only [h8, h9, h10, h11, h12, q0, q1, q2, q3]
    exact bto (e_beats_i J) rfl
  | z + 2 =>
    unfold gX9w_beats yAns
    rw [show min (z + 2) 2 = 2 by omega]
    dsimp only
    try simp only [h8, h9, h10, h11, h12, q0, q1, q2, q3]
    exact bto (e_beats_r J) rfl
theorem eM_best {sh r kk c g s : Nat} {m : Nat → Int32} {L : Int64} {k : Nat → Nat} {G : Nat → Nat → Nat → Int32} {i1 : Int32} (h : yMw sh m k G r kk c g s) : gX9w_best sh m L k G i1 = some (yAns (if yIn i1 0 4 = true then (yBT (r + s) (c + s) (yJst r kk c g (G 0) (G 1)) (yJb r kk c g s (G 0) (G 1) (G 3)) i1, 0) else ((0 : Int32), (1 : Int32))) sh m L k G) := by
  obtain ⟨J, ⟨h8, h9, h10, h11, h12, q0, q1, q2, q3⟩, b1, b2, q4, q5, hr⟩ := id h
  match sh with
  | 0 =>
    unfold gX9w_best
    dsimp only
    try simp only [h8, h9, h10, h11, h12, q0, q1, q2, q3]
    exact bto (e_best_i J) rfl
  | 1 =>
    unfold gX9w_best
    dsimp only
    try simp only [h8, h9, h10, h11, h12, q0, q1, q2, q3]
    exact bto (e_best_i J) rfl
  | z + 2 =>
    unfold gX9w_best yAns
    rw [show min (z + 2) 2 = 2 by omega]
    dsimp only
    try simp only [h8, h9, h10, h11, h12, q0, q1, q2, q3]
    exact bto (e_best_r J) rfl
theorem eM_saved {sh r kk c g s : Nat} {m : Nat → Int32} {L : Int64} {k : Nat → Nat} {G : Nat → Nat → Nat → Int32}  (h : yMw sh m k G r kk c g s) : gX9w_saved sh m L k G  = some (yAns (ySvi r kk c g s (G 0) (G 1) (G 3), 0) sh m L k G) := by
  obtain ⟨J, ⟨h8, h9, h10, h11, h12, q0, q1, q2, q3⟩, b1, b2, q4, q5, hr⟩ := id h
  match sh with
  | 0 =>
    unfold gX9w_saved
    dsimp only
    try simp only [h8, h9, h10, h11, h12, q0, q1, q2, q3]
    exact bto (e_saved_i J) rfl
  | 1 =>
    unfold gX9w_saved
    dsimp only
    try simp only [h8, h9, h10, h11, h12, q0, q1, q2, q3]
    exact bto (e_saved_i J) rfl
  | z + 2 =>
    unfold gX9w_saved yAns
    rw [show min (z + 2) 2 = 2 by omega]
    dsimp only
    try simp only [h8, h9, h10, h11, h12, q0, q1, q2, q3]
    exact bto (e_saved_r J) rfl
theorem eM_result {sh r kk c g s : Nat} {m : Nat → Int32} {L : Int64} {k : Nat → Nat} {G : Nat → Nat → Nat → Int32} {i1 : Int32} {i2 : Int32} (h : yMw sh m k G r kk c g s) : gX9w_result sh m L k G i1 i2 = some (yAns (if yHas (k 4) (k 5) i1 i2 = true then (G 6 i1.toNatClampNeg i2.toNatClampNeg, 0) else ((0 : Int32), (1 : Int32))) sh m L k G) := by
  obtain ⟨J, ⟨h8, h9, h10, h11, h12, q0, q1, q2, q3⟩, b1, b2, q4, q5, hr⟩ := id h
  match sh with
  | 0 =>
    unfold gX9w_result
    dsimp only
    try simp only [h8, h9, h10, h11, h12, q0, q1, q2, q3]
    exact bto (e_result_i q4 q5) rfl
  | 1 =>
    unfold gX9w_result
    dsimp only
    try simp only [h8, h9, h10, h11, h12, q0, q1, q2, q3]
    exact bto (e_result_i q4 q5) rfl
  | z + 2 =>
    unfold gX9w_result yAns
    rw [show min (z + 2) 2 = 2 by omega]
    dsimp only
    try simp only [h8, h9, h10, h11, h12, q0, q1, q2, q3]
    exact bto (e_result_r q4 q5) rfl
theorem aL_beats {n : Nat → Int32} {t : Nat → Nat → Int32} {on : Int64} {r kk c g s : Nat} {G H K : Nat → Nat → Int32} {i1 : Int32} {i2 : Int32} (J : yJob r kk c g s) (hn : n 0 = nI r ∧ n 1 = nI kk ∧ n 2 = nI c ∧ n 3 = nI g ∧ n 4 = nI s) (hf : yTq r kk (t 0) G) (hh : yTq kk c (t 1) H) (hK : yFlag (n 6) K) : ∃ x, gL_beats n t on i1 i2 = some x ∧ x.1 = ((if yIn i1 1 31 = true ∧ yIn i2 1 31 = true then (if yCross K i1.toNatClampNeg i2.toNatClampNeg = true then -1 else nI (yBeats (r + s) (c + s) (yPop i1.toNatClampNeg) (yPop i2.toNatClampNeg) (yJst r kk c g G H)), 0) else ((0 : Int32), (1 : Int32)))).2 ∧ (((if yIn i1 1 31 = true ∧ yIn i2 1 31 = true then (if yCross K i1.toNatClampNeg i2.toNatClampNeg = true then -1 else nI (yBeats (r + s) (c + s) (yPop i1.toNatClampNeg) (yPop i2.toNatClampNeg) (yJst r kk c g G H)), 0) else ((0 : Int32), (1 : Int32)))).2 = 0 → x.2.2.2 = ((if yIn i1 1 31 = true ∧ yIn i2 1 31 = true then (if yCross K i1.toNatClampNeg i2.toNatClampNeg = true then -1 else nI (yBeats (r + s) (c + s) (yPop i1.toNatClampNeg) (yPop i2.toNatClampNeg) (yJst r kk c g G H)), 0) else ((0 : Int32), (1 : Int32)))).1.toInt64) := by
  obtain ⟨h0, h1, h2, h3, h4⟩ := hn
  obtain ⟨⟨a1, a2⟩, ⟨a3, a4⟩, ⟨a5, a6⟩, a7, a8⟩ := id J
  have st := yJst_of G H J
  have l31 : Int32.toInt 31 = 31 := by decide
  unfold gL_beats fL_beats fX6_beats
  simp only [h0, h1, h2, h3, h4]
  by_cases c1 : i1 < 1
  · rw [yi_lt, yI1] at c1
    have e1 : ¬ (yIn i1 1 31 = true ∧ yIn i2 1 31 = true) := fun z => by have := yIn_of z.1; omega
    rw [if_neg e1]
    exact ⟨_, bto (bto (if_pos (by rw [yi_lt, yI1]; exact c1)) rfl) rfl, rfl, fun z => absurd z (by decide)⟩
  by_cases c2 : 31 < i1
  · rw [yi_lt, l31] at c2
    have e1 : ¬ (yIn i1 1 31 = true ∧ yIn i2 1 31 = true) := fun z => by have := yIn_of z.1; omega
    rw [if_neg e1]
    exact ⟨_, bto (bto ((if_neg c1).trans (if_pos (by rw [yi_lt, l31]; exact c2))) rfl) rfl, rfl, fun z => absurd z (by decide)⟩
  by_cases c3 : i2 < 1
  · rw [yi_lt, yI1] at c3
    have e1 : ¬ (yIn i1 1 31 = true ∧ yIn i2 1 31 = true) := fun z => by have := yIn_of z.2; omega
    rw [if_neg e1]
    exact ⟨_, bto (bto ((if_neg c1).trans ((if_neg c2).trans (if_pos (by rw [yi_lt, yI1]; exact c3)))) rfl) rfl, rfl, fun z => absurd z (by decide)⟩
  by_cases c4 : i2 ≤ 31
  · have d1 := c1
    have d2 := c2
    have d3 := c3
    have d4 := c4
    rw [yi_lt, yI1] at d1 d3
    rw [yi_lt, l31] at d2
    rw [yi_le, l31] at d4
    have e1 : yIn i1 1 31 = true ∧ yIn i2 1 31 = true := ⟨decide_eq_true (by omega), decide_eq_true (by omega)⟩
    rw [if_pos e1]
    have u1 := nj_to (x := i1) (by omega)
    have u2 := nj_to (x := i2) (by omega)
    have w1 : 1 ≤ i1.toInt.toNat ∧ i1.toInt.toNat < 32 := by omega
    have w2 : 1 ≤ i2.toInt.toNat ∧ i2.toInt.toNat < 32 := by omega
    clear e1 d1 d2 d3 d4
    generalize i1.toInt.toNat = m1 at u1 w1
    generalize i2.toInt.toNat = m2 at u2 w2
    subst u1
    subst u2
    rw [nj_cl (by omega), nj_cl (by omega)]
    have q1 := yPops w1.1 w1.2
    have q2 := yPops w2.1 w2.2
    rw [yBf_eq q1.1 q2.1 st.1]
    have eb := c_beatsOn (R := r + s) (C := c + s) (q := yJst r kk c g G H) (t3 := n 47) (t4 := n 48) (t5 := n 49) (t6 := n 50) (t7 := n 51) (t8 := n 52) (t9 := n 53) hK (by omega) (by omega) st.1 w1.2 w2.2
    cases hc : yCross K m1 m2
    · rw [hc, if_neg (show ¬ false = true by decide)] at eb
      rw [if_neg (show ¬ false = true by decide)]
      exact ⟨_, bto (bto ((if_neg c1).trans ((if_neg c2).trans ((if_neg c3).trans ((if_pos c4).trans (bto (c_measure J hf hh) (bto eb rfl)))))) rfl) rfl, rfl, fun _ => rfl⟩
    · rw [hc, if_pos rfl] at eb
      rw [if_pos rfl]
      exact ⟨_, bto (bto ((if_neg c1).trans ((if_neg c2).trans ((if_neg c3).trans ((if_pos c4).trans (bto (c_measure J hf hh) (bto eb rfl)))))) rfl) rfl, rfl, fun _ => rfl⟩
  · have d4 := c4
    rw [yi_le, l31] at d4
    have e1 : ¬ (yIn i1 1 31 = true ∧ yIn i2 1 31 = true) := fun z => by have := yIn_of z.2; omega
    rw [if_neg e1]
    exact ⟨_, bto (bto ((if_neg c1).trans ((if_neg c2).trans ((if_neg c3).trans (if_neg c4)))) rfl) rfl, rfl, fun z => absurd z (by decide)⟩
theorem aL_best {n : Nat → Int32} {t : Nat → Nat → Int32} {on : Int64} {r kk c g s : Nat} {G H K : Nat → Nat → Int32} {i1 : Int32} (J : yJob r kk c g s) (hn : n 0 = nI r ∧ n 1 = nI kk ∧ n 2 = nI c ∧ n 3 = nI g ∧ n 4 = nI s) (hf : yTq r kk (t 0) G) (hh : yTq kk c (t 1) H) (hK : yFlag (n 6) K) : ∃ x, gL_best n t on i1 = some x ∧ x.1 = ((if yIn i1 0 4 = true then (yBT (r + s) (c + s) (yJst r kk c g G H) (yJb r kk c g s G H K) i1, 0) else ((0 : Int32), (1 : Int32)))).2 ∧ (((if yIn i1 0 4 = true then (yBT (r + s) (c + s) (yJst r kk c g G H) (yJb r kk c g s G H K) i1, 0) else ((0 : Int32), (1 : Int32)))).2 = 0 → x.2.2.2 = ((if yIn i1 0 4 = true then (yBT (r + s) (c + s) (yJst r kk c g G H) (yJb r kk c g s G H K) i1, 0) else ((0 : Int32), (1 : Int32)))).1.toInt64) := by
  obtain ⟨h0, h1, h2, h3, h4⟩ := hn
  obtain ⟨⟨a1, a2⟩, ⟨a3, a4⟩, ⟨a5, a6⟩, a7, a8⟩ := id J
  have st := yJst_of G H J
  have l4 : Int32.toInt 4 = 4 := by decide
  unfold gL_best fL_best fX6_best
  simp only [h0, h1, h2, h3, h4]
  by_cases c1 : i1 < 0
  · rw [yi_lt, yI0] at c1
    have e1 : ¬ yIn i1 0 4 = true := fun z => by have := yIn_of z; omega
    rw [if_neg e1]
    exact ⟨_, bto (bto (if_pos (by rw [yi_lt, yI0]; exact c1)) rfl) rfl, rfl, fun z => absurd z (by decide)⟩
  by_cases c2 : i1 ≤ 4
  · have d1 := c1
    have d2 := c2
    rw [yi_lt, yI0] at d1
    rw [yi_le, l4] at d2
    have e1 : yIn i1 0 4 = true := decide_eq_true (by omega)
    rw [if_pos e1]
    obtain ⟨o6, e6, p0, p1, p2, p3, p4⟩ := c_findBest (x3 := n 47) (x4 := n 48) (x5 := n 49) (x6 := n 50) (x7 := n 51) (x8 := n 52) (x9 := n 53) J hf hh hK
    obtain ⟨o1, o2, o3, o4, o5, o7, o8, o9, o10, o11, ot⟩ := o6
    dsimp only at p1 p2 p3 p4
    unfold yLy at p4
    cases p4
    subst p1 p2 p3
    have bn := c_bestNumber (i1 := i1) p0 (by omega) (by omega) st.1
    exact ⟨_, bto (bto ((if_neg c1).trans ((if_pos c2).trans (bto e6 (bto bn rfl)))) rfl) rfl, rfl, fun _ => rfl⟩
  · have d2 := c2
    rw [yi_le, l4] at d2
    have e1 : ¬ yIn i1 0 4 = true := fun z => by have := yIn_of z; omega
    rw [if_neg e1]
    exact ⟨_, bto (bto ((if_neg c1).trans (if_neg c2)) rfl) rfl, rfl, fun z => absurd z (by decide)⟩
theorem aX_saved {n : Nat → Int32} {t : Nat → Nat → Int32} {r kk c g s : Nat} {G H K : Nat → Nat → Int32} (J : yJob r kk c g s) (hn : n 0 = nI r ∧ n 1 = nI kk ∧ n 2 = nI c ∧ n 3 = nI g ∧ n 4 = nI s) (hf : yTq r kk (t 0) G) (hh : yTq kk c (t 1) H) (hK : yFlag (n 6) K) : ∃ x, gX6_saved n t = some x ∧ x.1 = ySvi r kk c g s G H K := by
  obtain ⟨h0, h1, h2, h3, h4⟩ := hn
  obtain ⟨⟨a1, a2⟩, ⟨a3, a4⟩, ⟨a5, a6⟩, a7, a8⟩ := id J
  have st := yJst_of G H J
  unfold gX6_saved fX6_saved
  simp only [h0, h1, h2, h3, h4]
  obtain ⟨o6, e6, p0, p1, p2, p3, p4⟩ := c_findBest (x3 := n 47) (x4 := n 48) (x5 := n 49) (x6 := n 50) (x7 := n 51) (x8 := n 52) (x9 := n 53) J hf hh hK
  obtain ⟨o1, o2, o3, o4, o5, o7, o8, o9, o10, o11, ot⟩ := o6
  dsimp only at p1 p2 p3 p4
  unfold yLy at p4
  cases p4
  subst p1 p2 p3
  refine ⟨_, bto (bto e6 (bto (bto rfl rfl) rfl)) rfl, ?_⟩
  show nI _ * nI _ * (nI kk - nI (yJst r kk c g G H)) = _
  unfold ySvi
  rcases p0 with ⟨z1, z2⟩ | ⟨z1, z2, z3, z4, z5⟩
  · rw [if_pos z1, z1, z2, nj_mul, nj_sub st.2, nj_mul]
    have e0 : yTl (r + s) (yPop 0) = 0 := Nat.div_zero _
    rw [e0, Nat.zero_mul, Nat.zero_mul]
    rfl
  · rw [if_neg (show ¬ (yJb r kk c g s G H K).2.1 = 0 by omega)]
    unfold yBT
    rw [if_neg (show ¬ (yJb r kk c g s G H K).2.1 = 0 by omega), if_neg (by decide), if_neg (by decide), if_neg (by decide), if_pos rfl, nj_mul, nj_sub st.2]
theorem s4_beats {W : Nat} {n : Nat → Int32} {t : Nat → Nat → Int32} {sh : Nat} {m : Nat → Int32} {L : Int64} {k : Nat → Nat} {G : Nat → Nat → Nat → Int32} {on : Int64} {i1 : Int32} {i2 : Int32} (h : yR4 W n t sh m L k G) : ∃ x y, gL_beats n t on i1 i2 = some x ∧ gX9w_beats sh m L k G i1 i2 = some y ∧ yR4 W x.2.1 x.2.2.1 y.2.1 y.2.2.1 y.2.2.2.1 y.2.2.2.2.1 y.2.2.2.2.2 ∧ y.2.2.1 0 = x.1 ∧ (x.1 = 0 → x.2.2.2 = y.1.toInt64) := by
  obtain ⟨h2, hw⟩ := id h
  obtain ⟨hC, r, kk, c, g, s, hM, hn, h0, h1⟩ := id h2
  obtain ⟨⟨a1, a2⟩, ⟨a3, a4⟩, ⟨a5, a6⟩, a7, a8⟩ := id hM.1
  obtain ⟨x, y, ex, ey, hR⟩ := sim_beats (L := L) (on := on) (i1 := i1) (i2 := i2) h2
  obtain ⟨x', ex', hx1, hx2⟩ := aL_beats (on := on) (i1 := i1) (i2 := i2) hM.1 hn (h0.q (by omega) (by omega)) (h1.q (by omega) (by omega)) hw.2.1
  have ey' := eM_beats (L := L) (i1 := i1) (i2 := i2) hM
  rw [ex] at ex'
  cases ex'
  rw [ey] at ey'
  cases ey'
  exact ⟨x, _, ex, ey, ⟨hR, yRest_congr (f4_beats ex) (m4_beats ey) hw⟩, hx1.symm, fun z => hx2 (hx1.symm.trans z)⟩
theorem s4_best {W : Nat} {n : Nat → Int32} {t : Nat → Nat → Int32} {sh : Nat} {m : Nat → Int32} {L : Int64} {k : Nat → Nat} {G : Nat → Nat → Nat → Int32} {on : Int64} {i1 : Int32} (h : yR4 W n t sh m L k G) : ∃ x y, gL_best n t on i1 = some x ∧ gX9w_best sh m L k G i1 = some y ∧ yR4 W x.2.1 x.2.2.1 y.2.1 y.2.2.1 y.2.2.2.1 y.2.2.2.2.1 y.2.2.2.2.2 ∧ y.2.2.1 0 = x.1 ∧ (x.1 = 0 → x.2.2.2 = y.1.toInt64) := by
  obtain ⟨h2, hw⟩ := id h
  obtain ⟨hC, r, kk, c, g, s, hM, hn, h0, h1⟩ := id h2
  obtain ⟨⟨a1, a2⟩, ⟨a3, a4⟩, ⟨a5, a6⟩, a7, a8⟩ := id hM.1
  obtain ⟨x, y, ex, ey, hR⟩ := sim_best (L := L) (on := on) (i1 := i1) h2
  obtain ⟨x', ex', hx1, hx2⟩ := aL_best (on := on) (i1 := i1) hM.1 hn (h0.q (by omega) (by omega)) (h1.q (by omega) (by omega)) hw.2.1
  have ey' := eM_best (L := L) (i1 := i1) hM
  rw [ex] at ex'
  cases ex'
  rw [ey] at ey'
  cases ey'
  exact ⟨x, _, ex, ey, ⟨hR, yRest_congr (f4_best ex) (m4_best ey) hw⟩, hx1.symm, fun z => hx2 (hx1.symm.trans z)⟩
theorem s4_plain {W : Nat} {n : Nat → Int32} {t : Nat → Nat → Int32} {sh : Nat} {m : Nat → Int32} {L : Int64} {k : Nat → Nat} {G : Nat → Nat → Nat → Int32} {on : Int64} {i1 i2 : Int32} (h : yR4 W n t sh m L k G) : ∃ x y, gL_plain n t on i1 i2 = some x ∧ gX9w_plain sh m L k G i1 i2 = some y ∧ yR4 W x.2.1 x.2.2.1 y.2.1 y.2.2.1 y.2.2.2.1 y.2.2.2.2.1 y.2.2.2.2.2 ∧ y.2.2.1 0 = x.1 ∧ (x.1 = 0 → x.2.2.2 = y.1.toInt64) := by
  obtain ⟨x, y, ex, ey, hR, ht, ha⟩ := sx_plain (L := L) (on := on) (i1 := i1) (i2 := i2) h.1
  exact ⟨x, y, ex, ey, ⟨hR, yRest_congr (f4_plain ex) (m4_plain ey) h.2⟩, ht, ha⟩
theorem f4_saved {n : Nat → Int32} {t : Nat → Nat → Int32} {v : Int32 × (Nat → Int32) × (Nat → Nat → Int32)} (h : gX6_saved n t = some v) : yFC n v.2.1 t v.2.2 := by
  unfold gX6_saved at h
  obtain ⟨r, rfl⟩ := bsi h
  refine ⟨fun i h1 h2 => ?_, fun i h1 => ?_⟩
  · dsimp only
    try (repeat rw [va_ne (by omega)])
  · dsimp only
    try (repeat rw [va_ne (by omega)])
theorem m4_saved {sh : Nat} {m : Nat → Int32} {L : Int64} {k : Nat → Nat} {G : Nat → Nat → Nat → Int32} {y : Int32 × Nat × (Nat → Int32) × Int64 × (Nat → Nat) × (Nat → Nat → Nat → Int32)} (h : gX9w_saved sh m L k G = some y) : yFM sh y.2.1 m y.2.2.1 L y.2.2.2.1 k y.2.2.2.2.1 G y.2.2.2.2.2 := by
  match sh, h with
  | 0, h =>
    unfold gX9w_saved at h
    dsimp only at h
    obtain ⟨r, rfl⟩ := bsi h
    refine ⟨by dsimp only; omega, fun i h1 h2 => ?_, fun i h1 => ?_, rfl, fun i h1 => ?_, fun i h1 => ?_⟩
    · dsimp only
      try (repeat rw [va_ne (by omega)])
    · dsimp only
      try (repeat rw [va_ne (by omega)])
    · dsimp only
    · dsimp only
  | 1, h =>
    unfold gX9w_saved at h
    dsimp only at h
    obtain ⟨r, rfl⟩ := bsi h
    refine ⟨by dsimp only; omega, fun i h1 h2 => ?_, fun i h1 => ?_, rfl, fun i h1 => ?_, fun i h1 => ?_⟩
    · dsimp only
      try (repeat rw [va_ne (by omega)])
    · dsimp only
      try (repeat rw [va_ne (by omega)])
    · dsimp only
    · dsimp only
  | z + 2, h =>
    unfold gX9w_saved at h
    dsimp only at h
    obtain ⟨r, rfl⟩ := bsi h
    refine ⟨by dsimp only; omega, fun i h1 h2 => ?_, fun i h1 => ?_, rfl, fun i h1 => ?_, fun i h1 => ?_⟩
    · dsimp only
      try (repeat rw [va_ne (by omega)])
    · dsimp only
      try (repeat rw [va_ne (by omega)])
    · dsimp only
    · dsimp only
theorem s4_saved {W : Nat} {n : Nat → Int32} {t : Nat → Nat → Int32} {sh : Nat} {m : Nat → Int32} {L : Int64} {k : Nat → Nat} {G : Nat → Nat → Nat → Int32} (h : yR4 W n t sh m L k G) : ∃ x y, gX6_saved n t = some x ∧ gX9w_saved sh m L k G = some y ∧ yR4 W x.2.1 x.2.2 y.2.1 y.2.2.1 y.2.2.2.1 y.2.2.2.2.1 y.2.2.2.2.2 := by
  obtain ⟨x, y, ex, ey, hR⟩ := sim_saved (L := L) h.1
  exact ⟨x, y, ex, ey, hR, yRest_congr (f4_saved ex) (m4_saved ey) h.2⟩
theorem f4_isSound {n : Nat → Int32} {t : Nat → Nat → Int32} {v : Int32 × (Nat → Int32) × (Nat → Nat → Int32)} (h : gX6_isSound n t = some v) : yFC n v.2.1 t v.2.2 := by
  unfold gX6_isSound at h
  obtain ⟨r, rfl⟩ := bsi h
  refine ⟨fun i h1 h2 => ?_, fun i h1 => ?_⟩
  · dsimp only
    try (repeat rw [va_ne (by omega)])
  · dsimp only
    try (repeat rw [va_ne (by omega)])
theorem m4_isSound {sh : Nat} {m : Nat → Int32} {L : Int64} {k : Nat → Nat} {G : Nat → Nat → Nat → Int32} {y : Int32 × Nat × (Nat → Int32) × Int64 × (Nat → Nat) × (Nat → Nat → Nat → Int32)} (h : gX9w_isSound sh m L k G = some y) : yFM sh y.2.1 m y.2.2.1 L y.2.2.2.1 k y.2.2.2.2.1 G y.2.2.2.2.2 := by
  match sh, h with
  | 0, h =>
    unfold gX9w_isSound at h
    dsimp only at h
    obtain ⟨r, rfl⟩ := bsi h
    refine ⟨by dsimp only; omega, fun i h1 h2 => ?_, fun i h1 => ?_, rfl, fun i h1 => ?_, fun i h1 => ?_⟩
    · dsimp only
      try (repeat rw [va_ne (by omega)])
    · dsimp only
      try (repeat rw [va_ne (by omega)])
    · dsimp only
    · dsimp only
  | 1, h =>
    unfold gX9w_isSound at h
    dsimp only at h
    obtain ⟨r, rfl⟩ := bsi h
    refine ⟨by dsimp only; omega, fun i h1 h2 => ?_, fun i h1 => ?_, rfl, fun i h1 => ?_, fun i h1 => ?_⟩
    · dsimp only
      try (repeat rw [va_ne (by omega)])
    · dsimp only
      try (repeat rw [va_ne (by omega)])
    · dsimp only
    · dsimp only
  | z + 2, h =>
    unfold gX9w_isSound at h
    dsimp only at h
    obtain ⟨r, rfl⟩ := bsi h
    refine ⟨by dsimp only; omega, fun i h1 h2 => ?_, fun i h1 => ?_, rfl, fun i h1 => ?_, fun i h1 => ?_⟩
    · dsimp only
      try (repeat rw [va_ne (by omega)])
    · dsimp only
      try (repeat rw [va_ne (by omega)])
    · dsimp only
    · dsimp only
theorem s4_isSound {W : Nat} {n : Nat → Int32} {t : Nat → Nat → Int32} {sh : Nat} {m : Nat → Int32} {L : Int64} {k : Nat → Nat} {G : Nat → Nat → Nat → Int32} (h : yR4 W n t sh m L k G) : ∃ x y, gX6_isSound n t = some x ∧ gX9w_isSound sh m L k G = some y ∧ yR4 W x.2.1 x.2.2 y.2.1 y.2.2.1 y.2.2.2.1 y.2.2.2.2.1 y.2.2.2.2.2 := by
  obtain ⟨x, y, ex, ey, hR⟩ := sim_isSound (L := L) h.1
  exact ⟨x, y, ex, ey, hR, yRest_congr (f4_isSound ex) (m4_isSound ey) h.2⟩
theorem f4_digest {n : Nat → Int32} {t : Nat → Nat → Int32} {v : Int64 × (Nat → Int32) × (Nat → Nat → Int32)} (h : gX6_digest n t = some v) : yFC n v.2.1 t v.2.2 := by
  unfold gX6_digest at h
  obtain ⟨r, rfl⟩ := bsi h
  refine ⟨fun i h1 h2 => ?_, fun i h1 => ?_⟩
  · dsimp only
    try (repeat rw [va_ne (by omega)])
  · dsimp only
    try (repeat rw [va_ne (by omega)])
theorem m4_digest {sh : Nat} {m : Nat → Int32} {L : Int64} {k : Nat → Nat} {G : Nat → Nat → Nat → Int32} {y : Int64 × Nat × (Nat → Int32) × Int64 × (Nat → Nat) × (Nat → Nat → Nat → Int32)} (h : gX9w_digest sh m L k G = some y) : yFM sh y.2.1 m y.2.2.1 L y.2.2.2.1 k y.2.2.2.2.1 G y.2.2.2.2.2 := by
  match sh, h with
  | 0, h =>
    unfold gX9w_digest at h
    dsimp only at h
    obtain ⟨r, rfl⟩ := bsi h
    refine ⟨by dsimp only; omega, fun i h1 h2 => ?_, fun i h1 => ?_, rfl, fun i h1 => ?_, fun i h1 => ?_⟩
    · dsimp only
      try (repeat rw [va_ne (by omega)])
    · dsimp only
      try (repeat rw [va_ne (by omega)])
    · dsimp only
    · dsimp only
  | 1, h =>
    unfold gX9w_digest at h
    dsimp only at h
    obtain ⟨r, rfl⟩ := bsi h
    refine ⟨by dsimp only; omega, fun i h1 h2 => ?_, fun i h1 => ?_, rfl, fun i h1 => ?_, fun i h1 => ?_⟩
    · dsimp only
      try (repeat rw [va_ne (by omega)])
    · dsimp only
      try (repeat rw [va_ne (by omega)])
    · dsimp only
    · dsimp only
  | z + 2, h =>
    unfold gX9w_digest at h
    dsimp only at h
    obtain ⟨r, rfl⟩ := bsi h
    refine ⟨by dsimp only; omega, fun i h1 h2 => ?_, fun i h1 => ?_, rfl, fun i h1 => ?_, fun i h1 => ?_⟩
    · dsimp only
      try (repeat rw [va_ne (by omega)])
    · dsimp only
      try (repeat rw [va_ne (by omega)])
    · dsimp only
    · dsimp only
theorem s4_digest {W : Nat} {n : Nat → Int32} {t : Nat → Nat → Int32} {sh : Nat} {m : Nat → Int32} {L : Int64} {k : Nat → Nat} {G : Nat → Nat → Nat → Int32} (h : yR4 W n t sh m L k G) : ∃ x y, gX6_digest n t = some x ∧ gX9w_digest sh m L k G = some y ∧ yR4 W x.2.1 x.2.2 y.2.1 y.2.2.1 y.2.2.2.1 y.2.2.2.2.1 y.2.2.2.2.2 := by
  obtain ⟨x, y, ex, ey, hR⟩ := sim_digest (L := L) h.1
  exact ⟨x, y, ex, ey, hR, yRest_congr (f4_digest ex) (m4_digest ey) h.2⟩
theorem sa_saved {W : Nat} {n : Nat → Int32} {t : Nat → Nat → Int32} {sh : Nat} {m : Nat → Int32} {L : Int64} {k : Nat → Nat} {G : Nat → Nat → Nat → Int32} (h : yR4 W n t sh m L k G) : ∃ x y, gX6_saved n t = some x ∧ gX9w_saved sh m L k G = some y ∧ yR4 W x.2.1 x.2.2 y.2.1 y.2.2.1 y.2.2.2.1 y.2.2.2.2.1 y.2.2.2.2.2 ∧ x.1 = y.1 := by
  obtain ⟨h2, hw⟩ := id h
  obtain ⟨hC, r, kk, c, g, s, hM, hn, h0, h1⟩ := id h2
  obtain ⟨⟨a1, a2⟩, ⟨a3, a4⟩, ⟨a5, a6⟩, a7, a8⟩ := id hM.1
  obtain ⟨x, y, ex, ey, hR⟩ := s4_saved h
  obtain ⟨x', ex', hx⟩ := aX_saved hM.1 hn (h0.q (by omega) (by omega)) (h1.q (by omega) (by omega)) hw.2.1
  have ey' := eM_saved (L := L) hM
  rw [ex] at ex'
  cases ex'
  rw [ey] at ey'
  cases ey'
  exact ⟨x, _, ex, ey, hR, hx⟩
