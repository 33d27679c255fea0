/-! ===== the two worlds side by side ===== -/
def yR2 (n : Nat → Int32) (t : Nat → Nat → Int32) (sh : Nat) (m : Nat → Int32) (k : Nat → Nat) (G : Nat → Nat → Nat → Int32) : Prop := InvC n ∧ ∃ r kk c g s, yMw sh m k G r kk c g s ∧ (n 0 = nI r ∧ n 1 = nI kk ∧ n 2 = nI c ∧ n 3 = nI g ∧ n 4 = nI s) ∧ yTG (t 0) (G 0) ∧ yTG (t 1) (G 1)
theorem bsi {α β : Type} {o : Option α} {F : α → β} {v : β} (h : (o.bind fun r => some (F r)) = some v) : ∃ r, v = F r := by
  cases o with
  | none => cases h
  | some r =>
    cases h
    exact ⟨r, rfl⟩
theorem yR2_mk {n n2 : Nat → Int32} {t t2 : Nat → Nat → Int32} {sh2 : Nat} {m2 : Nat → Int32} {k2 : Nat → Nat} {G G2 : Nat → Nat → Nat → Int32} {r kk c g s : Nat} (hn : n 0 = nI r ∧ n 1 = nI kk ∧ n 2 = nI c ∧ n 3 = nI g ∧ n 4 = nI s) (h0 : yTG (t 0) (G 0)) (h1 : yTG (t 1) (G 1)) (hC : InvC n2) (f : (n2 0 = n 0 ∧ n2 1 = n 1 ∧ n2 2 = n 2 ∧ n2 3 = n 3 ∧ n2 4 = n 4) ∧ t2 0 = t 0 ∧ t2 1 = t 1) (hM : yMw sh2 m2 k2 G2 r kk c g s ∧ G2 0 = G 0 ∧ G2 1 = G 1) : yR2 n2 t2 sh2 m2 k2 G2 := by
  obtain ⟨⟨f0, f1, f2, f3, f4⟩, f5, f6⟩ := f
  obtain ⟨w, g0, g1⟩ := hM
  refine ⟨hC, r, kk, c, g, s, w, ?_, ?_, ?_⟩
  · rw [f0, f1, f2, f3, f4]
    exact hn
  · rw [f5, g0]
    exact h0
  · rw [f6, g1]
    exact h1
theorem fr_broken {n : Nat → Int32} {t : Nat → Nat → Int32} {on : Int64} {i1 : Int32} {i2 : Int32} {isb : Int32} {v : Int32 × (Nat → Int32) × (Nat → Nat → Int32) × Int64} (h : gL_broken n t on i1 i2 isb = some v) : (v.2.1 0 = n 0 ∧ v.2.1 1 = n 1 ∧ v.2.1 2 = n 2 ∧ v.2.1 3 = n 3 ∧ v.2.1 4 = n 4) ∧ v.2.2.1 0 = t 0 ∧ v.2.2.1 1 = t 1 := by
  unfold gL_broken at h
  obtain ⟨r, rfl⟩ := bsi h
  exact ⟨⟨rfl, rfl, rfl, rfl, rfl⟩, rfl, rfl⟩
theorem sim_broken {n : Nat → Int32} {t : Nat → Nat → Int32} {sh : Nat} {m : Nat → Int32} {L : Int64} {k : Nat → Nat} {G : Nat → Nat → Nat → Int32} {on : Int64} {i1 : Int32} {i2 : Int32} {isb : Int32} (h : yR2 n t sh m k G) (hb : Bo isb) : ∃ x y, gL_broken n t on i1 i2 isb = some x ∧ gX9w_broken sh m L k G i1 i2 isb = some y ∧ yR2 x.2.1 x.2.2.1 y.2.1 y.2.2.1 y.2.2.2.2.1 y.2.2.2.2.2 := by
  obtain ⟨hC, r, kk, c, g, s, hM, hn, h0, h1⟩ := h
  obtain ⟨x, ex, px⟩ := ogL_broken (t := t) (on := on) (i1 := i1) (i2 := i2) (isb := isb) hC
  obtain ⟨y, ey, py⟩ := og9_broken (L := L) (i1 := i1) (i2 := i2) (isb := isb) hM hb
  exact ⟨x, y, ex, ey, yR2_mk hn h0 h1 px (fr_broken ex) py⟩
theorem fr_test {n : Nat → Int32} {t : Nat → Nat → Int32} {on : Int64}  {v : Int32 × (Nat → Int32) × (Nat → Nat → Int32) × Int64} (h : gL_test n t on  = some v) : (v.2.1 0 = n 0 ∧ v.2.1 1 = n 1 ∧ v.2.1 2 = n 2 ∧ v.2.1 3 = n 3 ∧ v.2.1 4 = n 4) ∧ v.2.2.1 0 = t 0 ∧ v.2.2.1 1 = t 1 := by
  unfold gL_test at h
  obtain ⟨r, rfl⟩ := bsi h
  exact ⟨⟨rfl, rfl, rfl, rfl, rfl⟩, rfl, rfl⟩
theorem sim_test {n : Nat → Int32} {t : Nat → Nat → Int32} {sh : Nat} {m : Nat → Int32} {L : Int64} {k : Nat → Nat} {G : Nat → Nat → Nat → Int32} {on : Int64}  (h : yR2 n t sh m k G) : ∃ x y, gL_test n t on  = some x ∧ gX9w_test sh m L k G  = some y ∧ yR2 x.2.1 x.2.2.1 y.2.1 y.2.2.1 y.2.2.2.2.1 y.2.2.2.2.2 := by
  obtain ⟨hC, r, kk, c, g, s, hM, hn, h0, h1⟩ := h
  obtain ⟨x, ex, px⟩ := ogL_test (t := t) (on := on)  hC
  obtain ⟨y, ey, py⟩ := og9_test (L := L)  hM
  exact ⟨x, y, ex, ey, yR2_mk hn h0 h1 px (fr_test ex) py⟩
theorem fr_start {n : Nat → Int32} {t : Nat → Nat → Int32} {on : Int64}  {v : Int32 × (Nat → Int32) × (Nat → Nat → Int32) × Int64} (h : gL_start n t on  = some v) : (v.2.1 0 = n 0 ∧ v.2.1 1 = n 1 ∧ v.2.1 2 = n 2 ∧ v.2.1 3 = n 3 ∧ v.2.1 4 = n 4) ∧ v.2.2.1 0 = t 0 ∧ v.2.2.1 1 = t 1 := by
  unfold gL_start at h
  obtain ⟨r, rfl⟩ := bsi h
  exact ⟨⟨rfl, rfl, rfl, rfl, rfl⟩, rfl, rfl⟩
theorem sim_start {n : Nat → Int32} {t : Nat → Nat → Int32} {sh : Nat} {m : Nat → Int32} {L : Int64} {k : Nat → Nat} {G : Nat → Nat → Nat → Int32} {on : Int64}  (h : yR2 n t sh m k G) : ∃ x y, gL_start n t on  = some x ∧ gX9w_begin sh m L k G  = some y ∧ yR2 x.2.1 x.2.2.1 y.2.1 y.2.2.1 y.2.2.2.2.1 y.2.2.2.2.2 := by
  obtain ⟨hC, r, kk, c, g, s, hM, hn, h0, h1⟩ := h
  obtain ⟨x, ex, px⟩ := ogL_start (t := t) (on := on)  hC
  obtain ⟨y, ey, py⟩ := og9_begin (L := L)  hM
  exact ⟨x, y, ex, ey, yR2_mk hn h0 h1 px (fr_start ex) py⟩
theorem fr_beat {n : Nat → Int32} {t : Nat → Nat → Int32} {on : Int64} {i1 : Int32} {v : Int32 × (Nat → Int32) × (Nat → Nat → Int32) × Int64} (h : gL_beat n t on i1 = some v) : (v.2.1 0 = n 0 ∧ v.2.1 1 = n 1 ∧ v.2.1 2 = n 2 ∧ v.2.1 3 = n 3 ∧ v.2.1 4 = n 4) ∧ v.2.2.1 0 = t 0 ∧ v.2.2.1 1 = t 1 := by
  unfold gL_beat at h
  obtain ⟨r, rfl⟩ := bsi h
  exact ⟨⟨rfl, rfl, rfl, rfl, rfl⟩, rfl, rfl⟩
theorem sim_beat {n : Nat → Int32} {t : Nat → Nat → Int32} {sh : Nat} {m : Nat → Int32} {L : Int64} {k : Nat → Nat} {G : Nat → Nat → Nat → Int32} {on : Int64} {i1 : Int32} (h : yR2 n t sh m k G) : ∃ x y, gL_beat n t on i1 = some x ∧ gX9w_beat sh m L k G i1 = some y ∧ yR2 x.2.1 x.2.2.1 y.2.1 y.2.2.1 y.2.2.2.2.1 y.2.2.2.2.2 := by
  obtain ⟨hC, r, kk, c, g, s, hM, hn, h0, h1⟩ := h
  obtain ⟨x, ex, px⟩ := ogL_beat (t := t) (on := on) (i1 := i1) hC
  obtain ⟨y, ey, py⟩ := og9_beat (L := L) (i1 := i1) hM
  exact ⟨x, y, ex, ey, yR2_mk hn h0 h1 px (fr_beat ex) py⟩
theorem fr_bend {n : Nat → Int32} {t : Nat → Nat → Int32} {on : Int64} {i1 : Int32} {i2 : Int32} {i3 : Int32} {v : Int32 × (Nat → Int32) × (Nat → Nat → Int32) × Int64} (h : gL_bend n t on i1 i2 i3 = some v) : (v.2.1 0 = n 0 ∧ v.2.1 1 = n 1 ∧ v.2.1 2 = n 2 ∧ v.2.1 3 = n 3 ∧ v.2.1 4 = n 4) ∧ v.2.2.1 0 = t 0 ∧ v.2.2.1 1 = t 1 := by
  unfold gL_bend at h
  obtain ⟨r, rfl⟩ := bsi h
  exact ⟨⟨rfl, rfl, rfl, rfl, rfl⟩, rfl, rfl⟩
theorem sim_bend {n : Nat → Int32} {t : Nat → Nat → Int32} {sh : Nat} {m : Nat → Int32} {L : Int64} {k : Nat → Nat} {G : Nat → Nat → Nat → Int32} {on : Int64} {i1 : Int32} {i2 : Int32} {i3 : Int32} (h : yR2 n t sh m k G) : ∃ x y, gL_bend n t on i1 i2 i3 = some x ∧ gX9w_bend sh m L k G i1 i2 i3 = some y ∧ yR2 x.2.1 x.2.2.1 y.2.1 y.2.2.1 y.2.2.2.2.1 y.2.2.2.2.2 := by
  obtain ⟨hC, r, kk, c, g, s, hM, hn, h0, h1⟩ := h
  obtain ⟨x, ex, px⟩ := ogL_bend (t := t) (on := on) (i1 := i1) (i2 := i2) (i3 := i3) hC
  obtain ⟨y, ey, py⟩ := og9_bend (L := L) (i1 := i1) (i2 := i2) (i3 := i3) hM
  exact ⟨x, y, ex, ey, yR2_mk hn h0 h1 px (fr_bend ex) py⟩
theorem fr_check {n : Nat → Int32} {t : Nat → Nat → Int32} {on : Int64}  {v : Int32 × (Nat → Int32) × (Nat → Nat → Int32) × Int64} (h : gL_check n t on  = some v) : (v.2.1 0 = n 0 ∧ v.2.1 1 = n 1 ∧ v.2.1 2 = n 2 ∧ v.2.1 3 = n 3 ∧ v.2.1 4 = n 4) ∧ v.2.2.1 0 = t 0 ∧ v.2.2.1 1 = t 1 := by
  unfold gL_check at h
  obtain ⟨r, rfl⟩ := bsi h
  exact ⟨⟨rfl, rfl, rfl, rfl, rfl⟩, rfl, rfl⟩
theorem sim_check {n : Nat → Int32} {t : Nat → Nat → Int32} {sh : Nat} {m : Nat → Int32} {L : Int64} {k : Nat → Nat} {G : Nat → Nat → Nat → Int32} {on : Int64}  (h : yR2 n t sh m k G) : ∃ x y, gL_check n t on  = some x ∧ gX9w_check sh m L k G  = some y ∧ yR2 x.2.1 x.2.2.1 y.2.1 y.2.2.1 y.2.2.2.2.1 y.2.2.2.2.2 := by
  obtain ⟨hC, r, kk, c, g, s, hM, hn, h0, h1⟩ := h
  obtain ⟨x, ex, px⟩ := ogL_check (t := t) (on := on)  hC
  obtain ⟨y, ey, py⟩ := og9_check (L := L)  hM
  exact ⟨x, y, ex, ey, yR2_mk hn h0 h1 px (fr_check ex) py⟩
theorem fr_mesh {n : Nat → Int32} {t : Nat → Nat → Int32} {on : Int64} {i1 : Int32} {v : Int32 × (Nat → Int32) × (Nat → Nat → Int32) × Int64} (h : gL_mesh n t on i1 = some v) : (v.2.1 0 = n 0 ∧ v.2.1 1 = n 1 ∧ v.2.1 2 = n 2 ∧ v.2.1 3 = n 3 ∧ v.2.1 4 = n 4) ∧ v.2.2.1 0 = t 0 ∧ v.2.2.1 1 = t 1 := by
  unfold gL_mesh at h
  obtain ⟨r, rfl⟩ := bsi h
  exact ⟨⟨rfl, rfl, rfl, rfl, rfl⟩, rfl, rfl⟩
theorem sim_mesh {n : Nat → Int32} {t : Nat → Nat → Int32} {sh : Nat} {m : Nat → Int32} {L : Int64} {k : Nat → Nat} {G : Nat → Nat → Nat → Int32} {on : Int64} {i1 : Int32} (h : yR2 n t sh m k G) : ∃ x y, gL_mesh n t on i1 = some x ∧ gX9w_mesh sh m L k G i1 = some y ∧ yR2 x.2.1 x.2.2.1 y.2.1 y.2.2.1 y.2.2.2.2.1 y.2.2.2.2.2 := by
  obtain ⟨hC, r, kk, c, g, s, hM, hn, h0, h1⟩ := h
  obtain ⟨x, ex, px⟩ := ogL_mesh (t := t) (on := on) (i1 := i1) hC
  obtain ⟨y, ey, py⟩ := og9_mesh (L := L) (i1 := i1) hM
  exact ⟨x, y, ex, ey, yR2_mk hn h0 h1 px (fr_mesh ex) py⟩
theorem fr_ofCell {n : Nat → Int32} {t : Nat → Nat → Int32} {on : Int64} {i1 : Int32} {i2 : Int32} {i3 : Int32} {v : Int32 × (Nat → Int32) × (Nat → Nat → Int32) × Int64} (h : gL_ofCell n t on i1 i2 i3 = some v) : (v.2.1 0 = n 0 ∧ v.2.1 1 = n 1 ∧ v.2.1 2 = n 2 ∧ v.2.1 3 = n 3 ∧ v.2.1 4 = n 4) ∧ v.2.2.1 0 = t 0 ∧ v.2.2.1 1 = t 1 := by
  unfold gL_ofCell at h
  obtain ⟨r, rfl⟩ := bsi h
  exact ⟨⟨rfl, rfl, rfl, rfl, rfl⟩, rfl, rfl⟩
theorem sim_ofCell {n : Nat → Int32} {t : Nat → Nat → Int32} {sh : Nat} {m : Nat → Int32} {L : Int64} {k : Nat → Nat} {G : Nat → Nat → Nat → Int32} {on : Int64} {i1 : Int32} {i2 : Int32} {i3 : Int32} (h : yR2 n t sh m k G) : ∃ x y, gL_ofCell n t on i1 i2 i3 = some x ∧ gX9w_ofCell sh m L k G i1 i2 i3 = some y ∧ yR2 x.2.1 x.2.2.1 y.2.1 y.2.2.1 y.2.2.2.2.1 y.2.2.2.2.2 := by
  obtain ⟨hC, r, kk, c, g, s, hM, hn, h0, h1⟩ := h
  obtain ⟨x, ex, px⟩ := ogL_ofCell (t := t) (on := on) (i1 := i1) (i2 := i2) (i3 := i3) hC
  obtain ⟨y, ey, py⟩ := og9_ofCell (L := L) (i1 := i1) (i2 := i2) (i3 := i3) hM
  exact ⟨x, y, ex, ey, yR2_mk hn h0 h1 px (fr_ofCell ex) py⟩
theorem fr_result {n : Nat → Int32} {t : Nat → Nat → Int32} {on : Int64} {i1 : Int32} {i2 : Int32} {v : Int32 × (Nat → Int32) × (Nat → Nat → Int32) × Int64} (h : gL_result n t on i1 i2 = some v) : (v.2.1 0 = n 0 ∧ v.2.1 1 = n 1 ∧ v.2.1 2 = n 2 ∧ v.2.1 3 = n 3 ∧ v.2.1 4 = n 4) ∧ v.2.2.1 0 = t 0 ∧ v.2.2.1 1 = t 1 := by
  unfold gL_result at h
  obtain ⟨r, rfl⟩ := bsi h
  exact ⟨⟨rfl, rfl, rfl, rfl, rfl⟩, rfl, rfl⟩
theorem sim_result {n : Nat → Int32} {t : Nat → Nat → Int32} {sh : Nat} {m : Nat → Int32} {L : Int64} {k : Nat → Nat} {G : Nat → Nat → Nat → Int32} {on : Int64} {i1 : Int32} {i2 : Int32} (h : yR2 n t sh m k G) : ∃ x y, gL_result n t on i1 i2 = some x ∧ gX9w_result sh m L k G i1 i2 = some y ∧ yR2 x.2.1 x.2.2.1 y.2.1 y.2.2.1 y.2.2.2.2.1 y.2.2.2.2.2 := by
  obtain ⟨hC, r, kk, c, g, s, hM, hn, h0, h1⟩ := h
  obtain ⟨x, ex, px⟩ := ogL_result (t := t) (on := on) (i1 := i1) (i2 := i2) hC
  obtain ⟨y, ey, py⟩ := og9_result (L := L) (i1 := i1) (i2 := i2) hM
  exact ⟨x, y, ex, ey, yR2_mk hn h0 h1 px (fr_result ex) py⟩
theorem fr_plain {n : Nat → Int32} {t : Nat → Nat → Int32} {on : Int64} {i1 : Int32} {i2 : Int32} {v : Int32 × (Nat → Int32) × (Nat → Nat → Int32) × Int64} (h : gL_plain n t on i1 i2 = some v) : (v.2.1 0 = n 0 ∧ v.2.1 1 = n 1 ∧ v.2.1 2 = n 2 ∧ v.2.1 3 = n 3 ∧ v.2.1 4 = n 4) ∧ v.2.2.1 0 = t 0 ∧ v.2.2.1 1 = t 1 := by
  unfold gL_plain at h
  obtain ⟨r, rfl⟩ := bsi h
  exact ⟨⟨rfl, rfl, rfl, rfl, rfl⟩, rfl, rfl⟩
theorem sim_plain {n : Nat → Int32} {t : Nat → Nat → Int32} {sh : Nat} {m : Nat → Int32} {L : Int64} {k : Nat → Nat} {G : Nat → Nat → Nat → Int32} {on : Int64} {i1 : Int32} {i2 : Int32} (h : yR2 n t sh m k G) : ∃ x y, gL_plain n t on i1 i2 = some x ∧ gX9w_plain sh m L k G i1 i2 = some y ∧ yR2 x.2.1 x.2.2.1 y.2.1 y.2.2.1 y.2.2.2.2.1 y.2.2.2.2.2 := by
  obtain ⟨hC, r, kk, c, g, s, hM, hn, h0, h1⟩ := h
  obtain ⟨x, ex, px⟩ := ogL_plain (t := t) (on := on) (i1 := i1) (i2 := i2) hC
  obtain ⟨y, ey, py⟩ := og9_plain (L := L) (i1 := i1) (i2 := i2) hM
  exact ⟨x, y, ex, ey, yR2_mk hn h0 h1 px (fr_plain ex) py⟩
theorem fr_beats {n : Nat → Int32} {t : Nat → Nat → Int32} {on : Int64} {i1 : Int32} {i2 : Int32} {v : Int32 × (Nat → Int32) × (Nat → Nat → Int32) × Int64} (h : gL_beats n t on i1 i2 = some v) : (v.2.1 0 = n 0 ∧ v.2.1 1 = n 1 ∧ v.2.1 2 = n 2 ∧ v.2.1 3 = n 3 ∧ v.2.1 4 = n 4) ∧ v.2.2.1 0 = t 0 ∧ v.2.2.1 1 = t 1 := by
  unfold gL_beats at h
  obtain ⟨r, rfl⟩ := bsi h
  exact ⟨⟨rfl, rfl, rfl, rfl, rfl⟩, rfl, rfl⟩
theorem sim_beats {n : Nat → Int32} {t : Nat → Nat → Int32} {sh : Nat} {m : Nat → Int32} {L : Int64} {k : Nat → Nat} {G : Nat → Nat → Nat → Int32} {on : Int64} {i1 : Int32} {i2 : Int32} (h : yR2 n t sh m k G) : ∃ x y, gL_beats n t on i1 i2 = some x ∧ gX9w_beats sh m L k G i1 i2 = some y ∧ yR2 x.2.1 x.2.2.1 y.2.1 y.2.2.1 y.2.2.2.2.1 y.2.2.2.2.2 := by
  obtain ⟨hC, r, kk, c, g, s, hM, hn, h0, h1⟩ := h
  obtain ⟨x, ex, px⟩ := ogL_beats (t := t) (on := on) (i1 := i1) (i2 := i2) hC
  obtain ⟨y, ey, py⟩ := og9_beats (L := L) (i1 := i1) (i2 := i2) hM
  exact ⟨x, y, ex, ey, yR2_mk hn h0 h1 px (fr_beats ex) py⟩
theorem fr_best {n : Nat → Int32} {t : Nat → Nat → Int32} {on : Int64} {i1 : Int32} {v : Int32 × (Nat → Int32) × (Nat → Nat → Int32) × Int64} (h : gL_best n t on i1 = some v) : (v.2.1 0 = n 0 ∧ v.2.1 1 = n 1 ∧ v.2.1 2 = n 2 ∧ v.2.1 3 = n 3 ∧ v.2.1 4 = n 4) ∧ v.2.2.1 0 = t 0 ∧ v.2.2.1 1 = t 1 := by
  unfold gL_best at h
  obtain ⟨r, rfl⟩ := bsi h
  exact ⟨⟨rfl, rfl, rfl, rfl, rfl⟩, rfl, rfl⟩
theorem sim_best {n : Nat → Int32} {t : Nat → Nat → Int32} {sh : Nat} {m : Nat → Int32} {L : Int64} {k : Nat → Nat} {G : Nat → Nat → Nat → Int32} {on : Int64} {i1 : Int32} (h : yR2 n t sh m k G) : ∃ x y, gL_best n t on i1 = some x ∧ gX9w_best sh m L k G i1 = some y ∧ yR2 x.2.1 x.2.2.1 y.2.1 y.2.2.1 y.2.2.2.2.1 y.2.2.2.2.2 := by
  obtain ⟨hC, r, kk, c, g, s, hM, hn, h0, h1⟩ := h
  obtain ⟨x, ex, px⟩ := ogL_best (t := t) (on := on) (i1 := i1) hC
  obtain ⟨y, ey, py⟩ := og9_best (L := L) (i1 := i1) hM
  exact ⟨x, y, ex, ey, yR2_mk hn h0 h1 px (fr_best ex) py⟩
theorem fr_saved {n : Nat → Int32} {t : Nat → Nat → Int32} {v : Int32 × (Nat → Int32) × (Nat → Nat → Int32)} (h : gX6_saved n t = some v) : (v.2.1 0 = n 0 ∧ v.2.1 1 = n 1 ∧ v.2.1 2 = n 2 ∧ v.2.1 3 = n 3 ∧ v.2.1 4 = n 4) ∧ v.2.2 0 = t 0 ∧ v.2.2 1 = t 1 := by
  unfold gX6_saved at h
  obtain ⟨r, rfl⟩ := bsi h
  exact ⟨⟨rfl, rfl, rfl, rfl, rfl⟩, rfl, rfl⟩
theorem sim_saved {n : Nat → Int32} {t : Nat → Nat → Int32} {sh : Nat} {m : Nat → Int32} {L : Int64} {k : Nat → Nat} {G : Nat → Nat → Nat → Int32} (h : yR2 n t sh m k G) : ∃ x y, gX6_saved n t = some x ∧ gX9w_saved sh m L k G = some y ∧ yR2 x.2.1 x.2.2 y.2.1 y.2.2.1 y.2.2.2.2.1 y.2.2.2.2.2 := by
  obtain ⟨hC, r, kk, c, g, s, hM, hn, h0, h1⟩ := h
  obtain ⟨x, ex, px⟩ := ogX6_saved (t := t) hC
  obtain ⟨y, ey, py⟩ := og9_saved (L := L) hM
  exact ⟨x, y, ex, ey, yR2_mk hn h0 h1 px (fr_saved ex) py⟩
theorem fr_isSound {n : Nat → Int32} {t : Nat → Nat → Int32} {v : Int32 × (Nat → Int32) × (Nat → Nat → Int32)} (h : gX6_isSound n t = some v) : (v.2.1 0 = n 0 ∧ v.2.1 1 = n 1 ∧ v.2.1 2 = n 2 ∧ v.2.1 3 = n 3 ∧ v.2.1 4 = n 4) ∧ v.2.2 0 = t 0 ∧ v.2.2 1 = t 1 := by
  unfold gX6_isSound at h
  obtain ⟨r, rfl⟩ := bsi h
  exact ⟨⟨rfl, rfl, rfl, rfl, rfl⟩, rfl, rfl⟩
theorem sim_isSound {n : Nat → Int32} {t : Nat → Nat → Int32} {sh : Nat} {m : Nat → Int32} {L : Int64} {k : Nat → Nat} {G : Nat → Nat → Nat → Int32} (h : yR2 n t sh m k G) : ∃ x y, gX6_isSound n t = some x ∧ gX9w_isSound sh m L k G = some y ∧ yR2 x.2.1 x.2.2 y.2.1 y.2.2.1 y.2.2.2.2.1 y.2.2.2.2.2 := by
  obtain ⟨hC, r, kk, c, g, s, hM, hn, h0, h1⟩ := h
  obtain ⟨x, ex, px⟩ := ogX6_isSound (t := t) hC
  obtain ⟨y, ey, py⟩ := og9_isSound (L := L) hM
  exact ⟨x, y, ex, ey, yR2_mk hn h0 h1 px (fr_isSound ex) py⟩
theorem fr_digest {n : Nat → Int32} {t : Nat → Nat → Int32} {v : Int64 × (Nat → Int32) × (Nat → Nat → Int32)} (h : gX6_digest n t = some v) : (v.2.1 0 = n 0 ∧ v.2.1 1 = n 1 ∧ v.2.1 2 = n 2 ∧ v.2.1 3 = n 3 ∧ v.2.1 4 = n 4) ∧ v.2.2 0 = t 0 ∧ v.2.2 1 = t 1 := by
  unfold gX6_digest at h
  obtain ⟨r, rfl⟩ := bsi h
  exact ⟨⟨rfl, rfl, rfl, rfl, rfl⟩, rfl, rfl⟩
theorem sim_digest {n : Nat → Int32} {t : Nat → Nat → Int32} {sh : Nat} {m : Nat → Int32} {L : Int64} {k : Nat → Nat} {G : Nat → Nat → Nat → Int32} (h : yR2 n t sh m k G) : ∃ x y, gX6_digest n t = some x ∧ gX9w_digest sh m L k G = some y ∧ yR2 x.2.1 x.2.2 y.2.1 y.2.2.1 y.2.2.2.2.1 y.2.2.2.2.2 := by
  obtain ⟨hC, r, kk, c, g, s, hM, hn, h0, h1⟩ := h
  obtain ⟨x, ex, px⟩ := ogX6_digest (t := t) hC
  obtain ⟨y, ey, py⟩ := og9_digest (L := L) hM
  exact ⟨x, y, ex, ey, yR2_mk hn h0 h1 px (fr_digest ex) py⟩
theorem eM_shape {sh r kk c g s : Nat} {m : Nat → Int32} {L : Int64} {k : Nat → Nat} {G : Nat → Nat → Nat → Int32} {i1 : Int32} {i2 : Int32} {i3 : Int32} (h : yMw sh m k G r kk c g s) : ∃ y, gX9w_shape sh m L k G i1 i2 i3 = some y ∧ (yVs i1 i2 i3 = true → y.1 = nI (yCount r kk (G 0) + yCount kk c (G 1)) ∧ y.2.2.1 0 = 0 ∧ y.2.2.2.2.2 0 = yZ ∧ y.2.2.2.2.2 1 = yZ ∧ ∃ r2 k2 c2, i1 = nI r2 ∧ i2 = nI k2 ∧ i3 = nI c2 ∧ yMw y.2.1 y.2.2.1 y.2.2.2.2.1 y.2.2.2.2.2 r2 k2 c2 g s) ∧ (yVs i1 i2 i3 = false → y.2.2.1 0 = 1 ∧ y.2.2.2.2.2 0 = G 0 ∧ y.2.2.2.2.2 1 = G 1 ∧ yMw y.2.1 y.2.2.1 y.2.2.2.2.1 y.2.2.2.2.2 r kk c g s) := by
  obtain ⟨J, ⟨h8, h9, h10, h11, h12, q0, q1, q2, q3⟩, b1, b2, q4, q5, hr⟩ := id h
  obtain ⟨⟨a1, a2⟩, ⟨a3, a4⟩, ⟨a5, a6⟩, a7, a8⟩ := id J
  match sh, h, hr with
  | 0, h, hr =>
    unfold gX9w_shape
    dsimp only
    try simp only [h8, h9, h10, h11, h12, q0, q1, q2, q3]
    refine ⟨_, bto (e_shape_i J) rfl, ?_⟩
    refine ⟨fun e => ?_, fun e => ?_⟩
    · rw [if_pos e]
      refine ⟨rfl, rfl, rfl, rfl, ?_⟩
      unfold yVs at e
      rw [Bool.and_eq_true, Bool.and_eq_true] at e
      have e1 := yIn_of e.1
      have e2 := yIn_of e.2.1
      have e3 := yIn_of e.2.2
      have u1 := nj_to (x := i1) (by omega)
      have u2 := nj_to (x := i2) (by omega)
      have u3 := nj_to (x := i3) (by omega)
      have w1 : 1 ≤ i1.toInt.toNat ∧ i1.toInt.toNat ≤ 8 := by omega
      have w2 : 1 ≤ i2.toInt.toNat ∧ i2.toInt.toNat ≤ 6 := by omega
      have w3 : 1 ≤ i3.toInt.toNat ∧ i3.toInt.toNat ≤ 8 := by omega
      clear e e1 e2 e3
      generalize i1.toInt.toNat = x1 at u1 w1
      generalize i2.toInt.toNat = x2 at u2 w2
      generalize i3.toInt.toNat = x3 at u3 w3
      subst u1
      subst u2
      subst u3
      have v1 := nj_cl (a := x1) (by omega)
      have v2 := nj_cl (a := x2) (by omega)
      have v3 := nj_cl (a := x3) (by omega)
      exact ⟨x1, x2, x3, rfl, rfl, rfl, ⟨w1, w2, w3, a7, a8⟩, ⟨rfl, rfl, rfl, h11, h12, v1, v2, v2, v3⟩, b1, b2, q4, q5, (fun z => by
          obtain ⟨r2, k2, c2, g2, s2, lr, lc, ti, go, R⟩ := (hr) z
          exact ⟨r2, k2, c2, g2, s2, lr, lc, ti, go, R⟩)⟩
    · rw [if_neg (by rw [e]; decide)]
      exact ⟨rfl, rfl, rfl, J, ⟨rfl, rfl, rfl, h11, h12, rfl, rfl, rfl, rfl⟩, b1, b2, q4, q5, (fun z => by
          obtain ⟨r2, k2, c2, g2, s2, lr, lc, ti, go, R⟩ := (hr) z
          exact ⟨r2, k2, c2, g2, s2, lr, lc, ti, go, R⟩)⟩
  | 1, h, hr =>
    unfold gX9w_shape
    dsimp only
    try simp only [h8, h9, h10, h11, h12, q0, q1, q2, q3]
    refine ⟨_, bto (e_shape_i J) rfl, ?_⟩
    refine ⟨fun e => ?_, fun e => ?_⟩
    · rw [if_pos e]
      refine ⟨rfl, rfl, rfl, rfl, ?_⟩
      unfold yVs at e
      rw [Bool.and_eq_true, Bool.and_eq_true] at e
      have e1 := yIn_of e.1
      have e2 := yIn_of e.2.1
      have e3 := yIn_of e.2.2
      have u1 := nj_to (x := i1) (by omega)
      have u2 := nj_to (x := i2) (by omega)
      have u3 := nj_to (x := i3) (by omega)
      have w1 : 1 ≤ i1.toInt.toNat ∧ i1.toInt.toNat ≤ 8 := by omega
      have w2 : 1 ≤ i2.toInt.toNat ∧ i2.toInt.toNat ≤ 6 := by omega
      have w3 : 1 ≤ i3.toInt.toNat ∧ i3.toInt.toNat ≤ 8 := by omega
      clear e e1 e2 e3
      generalize i1.toInt.toNat = x1 at u1 w1
      generalize i2.toInt.toNat = x2 at u2 w2
      generalize i3.toInt.toNat = x3 at u3 w3
      subst u1
      subst u2
      subst u3
      have v1 := nj_cl (a := x1) (by omega)
      have v2 := nj_cl (a := x2) (by omega)
      have v3 := nj_cl (a := x3) (by omega)
      exact ⟨x1, x2, x3, rfl, rfl, rfl, ⟨w1, w2, w3, a7, a8⟩, ⟨rfl, rfl, rfl, h11, h12, v1, v2, v2, v3⟩, b1, b2, q4, q5, (fun z => by
          obtain ⟨r2, k2, c2, g2, s2, lr, lc, ti, go, R⟩ := (hr) z
          exact ⟨r2, k2, c2, g2, s2, lr, lc, ti, go, R⟩)⟩
    · rw [if_neg (by rw [e]; decide)]
      exact ⟨rfl, rfl, rfl, J, ⟨rfl, rfl, rfl, h11, h12, rfl, rfl, rfl, rfl⟩, b1, b2, q4, q5, (fun z => by
          obtain ⟨r2, k2, c2, g2, s2, lr, lc, ti, go, R⟩ := (hr) z
          exact ⟨r2, k2, c2, g2, s2, lr, lc, ti, go, R⟩)⟩
  | z + 2, h, hr =>
    unfold gX9w_shape
    dsimp only
    try simp only [h8, h9, h10, h11, h12, q0, q1, q2, q3]
    refine ⟨_, bto (e_shape_r J) rfl, ?_⟩
    refine ⟨fun e => ?_, fun e => ?_⟩
    · rw [if_pos e]
      refine ⟨rfl, rfl, rfl, rfl, ?_⟩
      unfold yVs at e
      rw [Bool.and_eq_true, Bool.and_eq_true] at e
      have e1 := yIn_of e.1
      have e2 := yIn_of e.2.1
      have e3 := yIn_of e.2.2
      have u1 := nj_to (x := i1) (by omega)
      have u2 := nj_to (x := i2) (by omega)
      have u3 := nj_to (x := i3) (by omega)
      have w1 : 1 ≤ i1.toInt.toNat ∧ i1.toInt.toNat ≤ 8 := by omega
      have w2 : 1 ≤ i2.toInt.toNat ∧ i2.toInt.toNat ≤ 6 := by omega
      have w3 : 1 ≤ i3.toInt.toNat ∧ i3.toInt.toNat ≤ 8 := by omega
      clear e e1 e2 e3
      generalize i1.toInt.toNat = x1 at u1 w1
      generalize i2.toInt.toNat = x2 at u2 w2
      generalize i3.toInt.toNat = x3 at u3 w3
      subst u1
      subst u2
      subst u3
      have v1 := nj_cl (a := x1) (by omega)
      have v2 := nj_cl (a := x2) (by omega)
      have v3 := nj_cl (a := x3) (by omega)
      exact ⟨x1, x2, x3, rfl, rfl, rfl, ⟨w1, w2, w3, a7, a8⟩, ⟨rfl, rfl, rfl, h11, h12, v1, v2, v2, v3⟩, b1, b2, q4, q5, (fun z => by
          obtain ⟨r2, k2, c2, g2, s2, lr, lc, ti, go, R⟩ := (fun _ => hr (by omega)) z
          exact ⟨r2, k2, c2, g2, s2, lr, lc, ti, go, R⟩)⟩
    · rw [if_neg (by rw [e]; decide)]
      exact ⟨rfl, rfl, rfl, J, ⟨rfl, rfl, rfl, h11, h12, rfl, rfl, rfl, rfl⟩, b1, b2, q4, q5, (fun z => by
          obtain ⟨r2, k2, c2, g2, s2, lr, lc, ti, go, R⟩ := (fun _ => hr (by omega)) z
          exact ⟨r2, k2, c2, g2, s2, lr, lc, ti, go, R⟩)⟩
theorem eM_left {sh r kk c g s : Nat} {m : Nat → Int32} {L : Int64} {k : Nat → Nat} {G : Nat → Nat → Nat → Int32} {i1 : Int32} {i2 : Int32} {i3 : Int32} (h : yMw sh m k G r kk c g s) : ∃ y, gX9w_left sh m L k G i1 i2 i3 = some y ∧ ((yIn i1 0 (r - 1) && yIn i2 0 (kk - 1)) = true → yIn i3 (-9) 9 = true → y.1 = G 0 i1.toNatClampNeg i2.toNatClampNeg ∧ y.2.2.1 0 = 0 ∧ y.2.2.2.2.2 0 = upg (G 0) i1.toNatClampNeg i2.toNatClampNeg i3 ∧ y.2.2.2.2.2 1 = G 1 ∧ yMw y.2.1 y.2.2.1 y.2.2.2.2.1 y.2.2.2.2.2 r kk c g s) ∧ ((yIn i1 0 (r - 1) && yIn i2 0 (kk - 1)) = true → yIn i3 (-9) 9 = false → y.2.2.1 0 = 2 ∧ y.2.2.2.2.2 0 = G 0 ∧ y.2.2.2.2.2 1 = G 1 ∧ yMw y.2.1 y.2.2.1 y.2.2.2.2.1 y.2.2.2.2.2 r kk c g s) ∧ ((yIn i1 0 (r - 1) && yIn i2 0 (kk - 1)) = false → y.2.2.1 0 = 1 ∧ y.2.2.2.2.2 0 = G 0 ∧ y.2.2.2.2.2 1 = G 1 ∧ yMw y.2.1 y.2.2.1 y.2.2.2.2.1 y.2.2.2.2.2 r kk c g s) := by
  obtain ⟨J, ⟨h8, h9, h10, h11, h12, q0, q1, q2, q3⟩, b1, b2, q4, q5, hr⟩ := id h
  obtain ⟨⟨a1, a2⟩, ⟨a3, a4⟩, ⟨a5, a6⟩, a7, a8⟩ := id J
  match sh, h, hr with
  | 0, h, hr =>
    unfold gX9w_left
    dsimp only
    try simp only [h8, h9, h10, h11, h12, q0, q1, q2, q3]
    refine ⟨_, bto (e_left_i a1 (by omega) a3 (by omega)) rfl, ?_⟩
    refine ⟨fun e e2 => ?_, fun e e2 => ?_, fun e => ?_⟩
    · rw [if_pos e, if_pos e2]
      exact ⟨rfl, rfl, rfl, rfl, J, ⟨h8, h9, h10, h11, h12, q0, q1, q2, q3⟩, b1, b2, q4, q5, (fun z => by
          obtain ⟨r2, k2, c2, g2, s2, lr, lc, ti, go, R⟩ := (hr) z
          exact ⟨r2, k2, c2, g2, s2, lr, lc, ti, go, R⟩)⟩
    · rw [if_pos e, if_neg (show ¬ yIn i3 (-9) 9 = true by rw [e2]; decide)]
      exact ⟨rfl, rfl, rfl, J, ⟨h8, h9, h10, h11, h12, q0, q1, q2, q3⟩, b1, b2, q4, q5, (fun z => by
          obtain ⟨r2, k2, c2, g2, s2, lr, lc, ti, go, R⟩ := (hr) z
          exact ⟨r2, k2, c2, g2, s2, lr, lc, ti, go, R⟩)⟩
    · rw [if_neg (show ¬ (yIn i1 0 (r - 1) && yIn i2 0 (kk - 1)) = true by rw [e]; decide)]
      exact ⟨rfl, rfl, rfl, J, ⟨h8, h9, h10, h11, h12, q0, q1, q2, q3⟩, b1, b2, q4, q5, (fun z => by
          obtain ⟨r2, k2, c2, g2, s2, lr, lc, ti, go, R⟩ := (hr) z
          exact ⟨r2, k2, c2, g2, s2, lr, lc, ti, go, R⟩)⟩
  | 1, h, hr =>
    unfold gX9w_left
    dsimp only
    try simp only [h8, h9, h10, h11, h12, q0, q1, q2, q3]
    refine ⟨_, bto (e_left_i a1 (by omega) a3 (by omega)) rfl, ?_⟩
    refine ⟨fun e e2 => ?_, fun e e2 => ?_, fun e => ?_⟩
    · rw [if_pos e, if_pos e2]
      exact ⟨rfl, rfl, rfl, rfl, J, ⟨h8, h9, h10, h11, h12, q0, q1, q2, q3⟩, b1, b2, q4, q5, (fun z => by
          obtain ⟨r2, k2, c2, g2, s2, lr, lc, ti, go, R⟩ := (hr) z
          exact ⟨r2, k2, c2, g2, s2, lr, lc, ti, go, R⟩)⟩
    · rw [if_pos e, if_neg (show ¬ yIn i3 (-9) 9 = true by rw [e2]; decide)]
      exact ⟨rfl, rfl, rfl, J, ⟨h8, h9, h10, h11, h12, q0, q1, q2, q3⟩, b1, b2, q4, q5, (fun z => by
          obtain ⟨r2, k2, c2, g2, s2, lr, lc, ti, go, R⟩ := (hr) z
          exact ⟨r2, k2, c2, g2, s2, lr, lc, ti, go, R⟩)⟩
    · rw [if_neg (show ¬ (yIn i1 0 (r - 1) && yIn i2 0 (kk - 1)) = true by rw [e]; decide)]
      exact ⟨rfl, rfl, rfl, J, ⟨h8, h9, h10, h11, h12, q0, q1, q2, q3⟩, b1, b2, q4, q5, (fun z => by
          obtain ⟨r2, k2, c2, g2, s2, lr, lc, ti, go, R⟩ := (hr) z
          exact ⟨r2, k2, c2, g2, s2, lr, lc, ti, go, R⟩)⟩
  | z + 2, h, hr =>
    unfold gX9w_left
    dsimp only
    try simp only [h8, h9, h10, h11, h12, q0, q1, q2, q3]
    refine ⟨_, bto (e_left_r a1 (by omega) a3 (by omega)) rfl, ?_⟩
    refine ⟨fun e e2 => ?_, fun e e2 => ?_, fun e => ?_⟩
    · rw [if_pos e, if_pos e2]
      exact ⟨rfl, rfl, rfl, rfl, J, ⟨h8, h9, h10, h11, h12, q0, q1, q2, q3⟩, b1, b2, q4, q5, (fun z => by
          obtain ⟨r2, k2, c2, g2, s2, lr, lc, ti, go, R⟩ := (fun _ => hr (by omega)) z
          exact ⟨r2, k2, c2, g2, s2, lr, lc, ti, go, R⟩)⟩
    · rw [if_pos e, if_neg (show ¬ yIn i3 (-9) 9 = true by rw [e2]; decide)]
      exact ⟨rfl, rfl, rfl, J, ⟨h8, h9, h10, h11, h12, q0, q1, q2, q3⟩, b1, b2, q4, q5, (fun z => by
          obtain ⟨r2, k2, c2, g2, s2, lr, lc, ti, go, R⟩ := (fun _ => hr (by omega)) z
          exact ⟨r2, k2, c2, g2, s2, lr, lc, ti, go, R⟩)⟩
    · rw [if_neg (show ¬ (yIn i1 0 (r - 1) && yIn i2 0 (kk - 1)) = true by rw [e]; decide)]
      exact ⟨rfl, rfl, rfl, J, ⟨h8, h9, h10, h11, h12, q0, q1, q2, q3⟩, b1, b2, q4, q5, (fun z => by
          obtain ⟨r2, k2, c2, g2, s2, lr, lc, ti, go, R⟩ := (fun _ => hr (by omega)) z
          exact ⟨r2, k2, c2, g2, s2, lr, lc, ti, go, R⟩)⟩
theorem eM_top {sh r kk c g s : Nat} {m : Nat → Int32} {L : Int64} {k : Nat → Nat} {G : Nat → Nat → Nat → Int32} {i1 : Int32} {i2 : Int32} {i3 : Int32} (h : yMw sh m k G r kk c g s) : ∃ y, gX9w_top sh m L k G i1 i2 i3 = some y ∧ ((yIn i1 0 (kk - 1) && yIn i2 0 (c - 1)) = true → yIn i3 (-9) 9 = true → y.1 = G 1 i1.toNatClampNeg i2.toNatClampNeg ∧ y.2.2.1 0 = 0 ∧ y.2.2.2.2.2 1 = upg (G 1) i1.toNatClampNeg i2.toNatClampNeg i3 ∧ y.2.2.2.2.2 0 = G 0 ∧ yMw y.2.1 y.2.2.1 y.2.2.2.2.1 y.2.2.2.2.2 r kk c g s) ∧ ((yIn i1 0 (kk - 1) && yIn i2 0 (c - 1)) = true → yIn i3 (-9) 9 = false → y.2.2.1 0 = 2 ∧ y.2.2.2.2.2 0 = G 0 ∧ y.2.2.2.2.2 1 = G 1 ∧ yMw y.2.1 y.2.2.1 y.2.2.2.2.1 y.2.2.2.2.2 r kk c g s) ∧ ((yIn i1 0 (kk - 1) && yIn i2 0 (c - 1)) = false → y.2.2.1 0 = 1 ∧ y.2.2.2.2.2 0 = G 0 ∧ y.2.2.2.2.2 1 = G 1 ∧ yMw y.2.1 y.2.2.1 y.2.2.2.2.1 y.2.2.2.2.2 r kk c g s) := by
  obtain ⟨J, ⟨h8, h9, h10, h11, h12, q0, q1, q2, q3⟩, b1, b2, q4, q5, hr⟩ := id h
  obtain ⟨⟨a1, a2⟩, ⟨a3, a4⟩, ⟨a5, a6⟩, a7, a8⟩ := id J
  match sh, h, hr with
  | 0, h, hr =>
    unfold gX9w_top
    dsimp only
    try simp only [h8, h9, h10, h11, h12, q0, q1, q2, q3]
    refine ⟨_, bto (e_top_i a3 (by omega) a5 (by omega)) rfl, ?_⟩
    refine ⟨fun e e2 => ?_, fun e e2 => ?_, fun e => ?_⟩
    · rw [if_pos e, if_pos e2]
      exact ⟨rfl, rfl, rfl, rfl, J, ⟨h8, h9, h10, h11, h12, q0, q1, q2, q3⟩, b1, b2, q4, q5, (fun z => by
          obtain ⟨r2, k2, c2, g2, s2, lr, lc, ti, go, R⟩ := (hr) z
          exact ⟨r2, k2, c2, g2, s2, lr, lc, ti, go, R⟩)⟩
    · rw [if_pos e, if_neg (show ¬ yIn i3 (-9) 9 = true by rw [e2]; decide)]
      exact ⟨rfl, rfl, rfl, J, ⟨h8, h9, h10, h11, h12, q0, q1, q2, q3⟩, b1, b2, q4, q5, (fun z => by
          obtain ⟨r2, k2, c2, g2, s2, lr, lc, ti, go, R⟩ := (hr) z
          exact ⟨r2, k2, c2, g2, s2, lr, lc, ti, go, R⟩)⟩
    · rw [if_neg (show ¬ (yIn i1 0 (kk - 1) && yIn i2 0 (c - 1)) = true by rw [e]; decide)]
      exact ⟨rfl, rfl, rfl, J, ⟨h8, h9, h10, h11, h12, q0, q1, q2, q3⟩, b1, b2, q4, q5, (fun z => by
          obtain ⟨r2, k2, c2, g2, s2, lr, lc, ti, go, R⟩ := (hr) z
          exact ⟨r2, k2, c2, g2, s2, lr, lc, ti, go, R⟩)⟩
  | 1, h, hr =>
    unfold gX9w_top
    dsimp only
    try simp only [h8, h9, h10, h11, h12, q0, q1, q2, q3]
    refine ⟨_, bto (e_top_i a3 (by omega) a5 (by omega)) rfl, ?_⟩
    refine ⟨fun e e2 => ?_, fun e e2 => ?_, fun e => ?_⟩
    · rw [if_pos e, if_pos e2]
      exact ⟨rfl, rfl, rfl, rfl, J, ⟨h8, h9, h10, h11, h12, q0, q1, q2, q3⟩, b1, b2, q4, q5, (fun z => by
          obtain ⟨r2, k2, c2, g2, s2, lr, lc, ti, go, R⟩ := (hr) z
          exact ⟨r2, k2, c2, g2, s2, lr, lc, ti, go, R⟩)⟩
    · rw [if_pos e, if_neg (show ¬ yIn i3 (-9) 9 = true by rw [e2]; decide)]
      exact ⟨rfl, rfl, rfl, J, ⟨h8, h9, h10, h11, h12, q0, q1, q2, q3⟩, b1, b2, q4, q5, (fun z => by
          obtain ⟨r2, k2, c2, g2, s2, lr, lc, ti, go, R⟩ := (hr) z
          exact ⟨r2, k2, c2, g2, s2, lr, lc, ti, go, R⟩)⟩
    · rw [if_neg (show ¬ (yIn i1 0 (kk - 1) && yIn i2 0 (c - 1)) = true by rw [e]; decide)]
      exact ⟨rfl, rfl, rfl, J, ⟨h8, h9, h10, h11, h12, q0, q1, q2, q3⟩, b1, b2, q4, q5, (fun z => by
          obtain ⟨r2, k2, c2, g2, s2, lr, lc, ti, go, R⟩ := (hr) z
          exact ⟨r2, k2, c2, g2, s2, lr, lc, ti, go, R⟩)⟩
  | z + 2, h, hr =>
    unfold gX9w_top
    dsimp only
    try simp only [h8, h9, h10, h11, h12, q0, q1, q2, q3]
    refine ⟨_, bto (e_top_r a3 (by omega) a5 (by omega)) rfl, ?_⟩
    refine ⟨fun e e2 => ?_, fun e e2 => ?_, fun e => ?_⟩
    · rw [if_pos e, if_pos e2]
      exact ⟨rfl, rfl, rfl, rfl, J, ⟨h8, h9, h10, h11, h12, q0, q1, q2, q3⟩, b1, b2, q4, q5, (fun z => by
          obtain ⟨r2, k2, c2, g2, s2, lr, lc, ti, go, R⟩ := (fun _ => hr (by omega)) z
          exact ⟨r2, k2, c2, g2, s2, lr, lc, ti, go, R⟩)⟩
    · rw [if_pos e, if_neg (show ¬ yIn i3 (-9) 9 = true by rw [e2]; decide)]
      exact ⟨rfl, rfl, rfl, J, ⟨h8, h9, h10, h11, h12, q0, q1, q2, q3⟩, b1, b2, q4, q5, (fun z => by
          obtain ⟨r2, k2, c2, g2, s2, lr, lc, ti, go, R⟩ := (fun _ => hr (by omega)) z
          exact ⟨r2, k2, c2, g2, s2, lr, lc, ti, go, R⟩)⟩
    · rw [if_neg (show ¬ (yIn i1 0 (kk - 1) && yIn i2 0 (c - 1)) = true by rw [e]; decide)]
      exact ⟨rfl, rfl, rfl, J, ⟨h8, h9, h10, h11, h12, q0, q1, q2, q3⟩, b1, b2, q4, q5, (fun z => by
          obtain ⟨r2, k2, c2, g2, s2, lr, lc, ti, go, R⟩ := (fun _ => hr (by omega)) z
          exact ⟨r2, k2, c2, g2, s2, lr, lc, ti, go, R⟩)⟩
theorem eM_kind {sh r kk c g s : Nat} {m : Nat → Int32} {L : Int64} {k : Nat → Nat} {G : Nat → Nat → Nat → Int32} {i1 : Int32} (h : yMw sh m k G r kk c g s) : ∃ y, gX9w_kind sh m L k G i1 = some y ∧ (yIn i1 0 2 = true → y.1 = nI g ∧ y.2.2.1 0 = 0 ∧ y.2.2.2.2.2 0 = G 0 ∧ y.2.2.2.2.2 1 = G 1 ∧ ∃ g2 s2, i1 = nI g2 ∧ (if i1 = 0 then nI s else 0) = nI s2 ∧ yMw y.2.1 y.2.2.1 y.2.2.2.2.1 y.2.2.2.2.2 r kk c g2 s2) ∧ (yIn i1 0 2 = false → y.2.2.1 0 = 1 ∧ y.2.2.2.2.2 0 = G 0 ∧ y.2.2.2.2.2 1 = G 1 ∧ yMw y.2.1 y.2.2.1 y.2.2.2.2.1 y.2.2.2.2.2 r kk c g s) := by
  obtain ⟨J, ⟨h8, h9, h10, h11, h12, q0, q1, q2, q3⟩, b1, b2, q4, q5, hr⟩ := id h
  obtain ⟨⟨a1, a2⟩, ⟨a3, a4⟩, ⟨a5, a6⟩, a7, a8⟩ := id J
  match sh, h, hr with
  | 0, h, hr =>
    unfold gX9w_kind
    dsimp only
    try simp only [h8, h9, h10, h11, h12, q0, q1, q2, q3]
    refine ⟨_, bto (e_kind_i a8) rfl, ?_⟩
    refine ⟨fun e => ?_, fun e => ?_⟩
    · rw [if_pos e]
      refine ⟨rfl, rfl, rfl, rfl, ?_⟩
      have e1 := yIn_of e
      have u1 := nj_to (x := i1) (by omega)
      have w1 : i1.toInt.toNat ≤ 2 := by omega
      clear e e1
      generalize i1.toInt.toNat = x1 at u1 w1
      subst u1
      by_cases hx : nI x1 = 0
      · rw [if_pos hx]
        exact ⟨x1, s, rfl, rfl, ⟨⟨a1, a2⟩, ⟨a3, a4⟩, ⟨a5, a6⟩, w1, a8⟩, ⟨h8, h9, h10, rfl, rfl, q0, q1, q2, q3⟩, b1, b2, q4, q5, (fun z => by
          obtain ⟨r2, k2, c2, g2, s2, lr, lc, ti, go, R⟩ := (hr) z
          exact ⟨r2, k2, c2, g2, s2, lr, lc, ti, go, R⟩)⟩
      · rw [if_neg hx]
        exact ⟨x1, 0, rfl, rfl, ⟨⟨a1, a2⟩, ⟨a3, a4⟩, ⟨a5, a6⟩, w1, Nat.zero_le _⟩, ⟨h8, h9, h10, rfl, rfl, q0, q1, q2, q3⟩, b1, b2, q4, q5, (fun z => by
          obtain ⟨r2, k2, c2, g2, s2, lr, lc, ti, go, R⟩ := (hr) z
          exact ⟨r2, k2, c2, g2, s2, lr, lc, ti, go, R⟩)⟩
    · rw [if_neg (show ¬ yIn i1 0 2 = true by rw [e]; decide)]
      exact ⟨rfl, rfl, rfl, J, ⟨h8, h9, h10, rfl, rfl, q0, q1, q2, q3⟩, b1, b2, q4, q5, (fun z => by
          obtain ⟨r2, k2, c2, g2, s2, lr, lc, ti, go, R⟩ := (hr) z
          exact ⟨r2, k2, c2, g2, s2, lr, lc, ti, go, R⟩)⟩
  | 1, h, hr =>
    unfold gX9w_kind
    dsimp only
    try simp only [h8, h9, h10, h11, h12, q0, q1, q2, q3]
    refine ⟨_, bto (e_kind_i a8) rfl, ?_⟩
    refine ⟨fun e => ?_, fun e => ?_⟩
    · rw [if_pos e]
      refine ⟨rfl, rfl, rfl, rfl, ?_⟩
      have e1 := yIn_of e
      have u1 := nj_to (x := i1) (by omega)
      have w1 : i1.toInt.toNat ≤ 2 := by omega
      clear e e1
      generalize i1.toInt.toNat = x1 at u1 w1
      subst u1
      by_cases hx : nI x1 = 0
      · rw [if_pos hx]
        exact ⟨x1, s, rfl, rfl, ⟨⟨a1, a2⟩, ⟨a3, a4⟩, ⟨a5, a6⟩, w1, a8⟩, ⟨h8, h9, h10, rfl, rfl, q0, q1, q2, q3⟩, b1, b2, q4, q5, (fun z => by
          obtain ⟨r2, k2, c2, g2, s2, lr, lc, ti, go, R⟩ := (hr) z
          exact ⟨r2, k2, c2, g2, s2, lr, lc, ti, go, R⟩)⟩
      · rw [if_neg hx]
        exact ⟨x1, 0, rfl, rfl, ⟨⟨a1, a2⟩, ⟨a3, a4⟩, ⟨a5, a6⟩, w1, Nat.zero_le _⟩, ⟨h8, h9, h10, rfl, rfl, q0, q1, q2, q3⟩, b1, b2, q4, q5, (fun z => by
          obtain ⟨r2, k2, c2, g2, s2, lr, lc, ti, go, R⟩ := (hr) z
          exact ⟨r2, k2, c2, g2, s2, lr, lc, ti, go, R⟩)⟩
    · rw [if_neg (show ¬ yIn i1 0 2 = true by rw [e]; decide)]
      exact ⟨rfl, rfl, rfl, J, ⟨h8, h9, h10, rfl, rfl, q0, q1, q2, q3⟩, b1, b2, q4, q5, (fun z => by
          obtain ⟨r2, k2, c2, g2, s2, lr, lc, ti, go, R⟩ := (hr) z
          exact ⟨r2, k2, c2, g2, s2, lr, lc, ti, go, R⟩)⟩
  | z + 2, h, hr =>
    unfold gX9w_kind
    dsimp only
    try simp only [h8, h9, h10, h11, h12, q0, q1, q2, q3]
    refine ⟨_, bto (e_kind_r a8) rfl, ?_⟩
    refine ⟨fun e => ?_, fun e => ?_⟩
    · rw [if_pos e]
      refine ⟨rfl, rfl, rfl, rfl, ?_⟩
      have e1 := yIn_of e
      have u1 := nj_to (x := i1) (by omega)
      have w1 : i1.toInt.toNat ≤ 2 := by omega
      clear e e1
      generalize i1.toInt.toNat = x1 at u1 w1
      subst u1
      by_cases hx : nI x1 = 0
      · rw [if_pos hx]
        exact ⟨x1, s, rfl, rfl, ⟨⟨a1, a2⟩, ⟨a3, a4⟩, ⟨a5, a6⟩, w1, a8⟩, ⟨h8, h9, h10, rfl, rfl, q0, q1, q2, q3⟩, b1, b2, q4, q5, (fun z => by
          obtain ⟨r2, k2, c2, g2, s2, lr, lc, ti, go, R⟩ := (fun _ => hr (by omega)) z
          exact ⟨r2, k2, c2, g2, s2, lr, lc, ti, go, R⟩)⟩
      · rw [if_neg hx]
        exact ⟨x1, 0, rfl, rfl, ⟨⟨a1, a2⟩, ⟨a3, a4⟩, ⟨a5, a6⟩, w1, Nat.zero_le _⟩, ⟨h8, h9, h10, rfl, rfl, q0, q1, q2, q3⟩, b1, b2, q4, q5, (fun z => by
          obtain ⟨r2, k2, c2, g2, s2, lr, lc, ti, go, R⟩ := (fun _ => hr (by omega)) z
          exact ⟨r2, k2, c2, g2, s2, lr, lc, ti, go, R⟩)⟩
    · rw [if_neg (show ¬ yIn i1 0 2 = true by rw [e]; decide)]
      exact ⟨rfl, rfl, rfl, J, ⟨h8, h9, h10, rfl, rfl, q0, q1, q2, q3⟩, b1, b2, q4, q5, (fun z => by
          obtain ⟨r2, k2, c2, g2, s2, lr, lc, ti, go, R⟩ := (fun _ => hr (by omega)) z
          exact ⟨r2, k2, c2, g2, s2, lr, lc, ti, go, R⟩)⟩
theorem eM_checked {sh r kk c g s : Nat} {m : Nat → Int32} {L : Int64} {k : Nat → Nat} {G : Nat → Nat → Nat → Int32} {i1 : Int32} (h : yMw sh m k G r kk c g s) (hb : Bo i1) : ∃ y, gX9w_checked sh m L k G i1 = some y ∧ ((i1 = 0 ∨ g = 0) → y.1 = nI s ∧ y.2.2.1 0 = 0 ∧ y.2.2.2.2.2 0 = G 0 ∧ y.2.2.2.2.2 1 = G 1 ∧ ∃ s2, i1 = nI s2 ∧ yMw y.2.1 y.2.2.1 y.2.2.2.2.1 y.2.2.2.2.2 r kk c g s2) ∧ (¬ (i1 = 0 ∨ g = 0) → y.1 = 0 ∧ y.2.2.1 0 = 1 ∧ y.2.2.2.2.2 0 = G 0 ∧ y.2.2.2.2.2 1 = G 1 ∧ yMw y.2.1 y.2.2.1 y.2.2.2.2.1 y.2.2.2.2.2 r kk c g s) := by
  obtain ⟨J, ⟨h8, h9, h10, h11, h12, q0, q1, q2, q3⟩, b1, b2, q4, q5, hr⟩ := id h
  obtain ⟨⟨a1, a2⟩, ⟨a3, a4⟩, ⟨a5, a6⟩, a7, a8⟩ := id J
  match sh, h, hr with
  | 0, h, hr =>
    unfold gX9w_checked
    dsimp only
    try simp only [h8, h9, h10, h11, h12, q0, q1, q2, q3]
    refine ⟨_, bto (e_checked_i a7 a8 hb) rfl, ?_⟩
    refine ⟨fun e => ?_, fun e => ?_⟩
    · rw [if_pos e]
      refine ⟨rfl, rfl, rfl, rfl, ?_⟩
      clear e
      rcases hb with rfl | rfl
      · exact ⟨0, rfl, ⟨⟨a1, a2⟩, ⟨a3, a4⟩, ⟨a5, a6⟩, a7, Nat.zero_le _⟩, ⟨h8, h9, h10, h11, rfl, q0, q1, q2, q3⟩, b1, b2, q4, q5, (fun z => by
          obtain ⟨r2, k2, c2, g2, s2, lr, lc, ti, go, R⟩ := (hr) z
          exact ⟨r2, k2, c2, g2, s2, lr, lc, ti, go, R⟩)⟩
      · exact ⟨1, rfl, ⟨⟨a1, a2⟩, ⟨a3, a4⟩, ⟨a5, a6⟩, a7, Nat.le_refl _⟩, ⟨h8, h9, h10, h11, rfl, q0, q1, q2, q3⟩, b1, b2, q4, q5, (fun z => by
          obtain ⟨r2, k2, c2, g2, s2, lr, lc, ti, go, R⟩ := (hr) z
          exact ⟨r2, k2, c2, g2, s2, lr, lc, ti, go, R⟩)⟩
    · rw [if_neg e]
      exact ⟨rfl, rfl, rfl, rfl, J, ⟨h8, h9, h10, h11, rfl, q0, q1, q2, q3⟩, b1, b2, q4, q5, (fun z => by
          obtain ⟨r2, k2, c2, g2, s2, lr, lc, ti, go, R⟩ := (hr) z
          exact ⟨r2, k2, c2, g2, s2, lr, lc, ti, go, R⟩)⟩
  | 1, h, hr =>
    unfold gX9w_checked
    dsimp only
    try simp only [h8, h9, h10, h11, h12, q0, q1, q2, q3]
    refine ⟨_, bto (e_checked_i a7 a8 hb) rfl, ?_⟩
    refine ⟨fun e => ?_, fun e => ?_⟩
    · rw [if_pos e]
      refine ⟨rfl, rfl, rfl, rfl, ?_⟩
      clear e
      rcases hb with rfl | rfl
      · exact ⟨0, rfl, ⟨⟨a1, a2⟩, ⟨a3, a4⟩, ⟨a5, a6⟩, a7, Nat.zero_le _⟩, ⟨h8, h9, h10, h11, rfl, q0, q1, q2, q3⟩, b1, b2, q4, q5, (fun z => by
          obtain ⟨r2, k2, c2, g2, s2, lr, lc, ti, go, R⟩ := (hr) z
          exact ⟨r2, k2, c2, g2, s2, lr, lc, ti, go, R⟩)⟩
      · exact ⟨1, rfl, ⟨⟨a1, a2⟩, ⟨a3, a4⟩, ⟨a5, a6⟩, a7, Nat.le_refl _⟩, ⟨h8, h9, h10, h11, rfl, q0, q1, q2, q3⟩, b1, b2, q4, q5, (fun z => by
          obtain ⟨r2, k2, c2, g2, s2, lr, lc, ti, go, R⟩ := (hr) z
          exact ⟨r2, k2, c2, g2, s2, lr, lc, ti, go, R⟩)⟩
    · rw [if_neg e]
      exact ⟨rfl, rfl, rfl, rfl, J, ⟨h8, h9, h10, h11, rfl, q0, q1, q2, q3⟩, b1, b2, q4, q5, (fun z => by
          obtain ⟨r2, k2, c2, g2, s2, lr, lc, ti, go, R⟩ := (hr) z
          exact ⟨r2, k2, c2, g2, s2, lr, lc, ti, go, R⟩)⟩
  | z + 2, h, hr =>
    unfold gX9w_checked
    dsimp only
    try simp only [h8, h9, h10, h11, h12, q0, q1, q2, q3]
    refine ⟨_, bto (e_checked_r a7 a8 hb) rfl, ?_⟩
    refine ⟨fun e => ?_, fun e => ?_⟩
    · rw [if_pos e]
      refine ⟨rfl, rfl, rfl, rfl, ?_⟩
      clear e
      rcases hb with rfl | rfl
      · exact ⟨0, rfl, ⟨⟨a1, a2⟩, ⟨a3, a4⟩, ⟨a5, a6⟩, a7, Nat.zero_le _⟩, ⟨h8, h9, h10, h11, rfl, q0, q1, q2, q3⟩, b1, b2, q4, q5, (fun z => by
          obtain ⟨r2, k2, c2, g2, s2, lr, lc, ti, go, R⟩ := (fun _ => hr (by omega)) z
          exact ⟨r2, k2, c2, g2, s2, lr, lc, ti, go, R⟩)⟩
      · exact ⟨1, rfl, ⟨⟨a1, a2⟩, ⟨a3, a4⟩, ⟨a5, a6⟩, a7, Nat.le_refl _⟩, ⟨h8, h9, h10, h11, rfl, q0, q1, q2, q3⟩, b1, b2, q4, q5, (fun z => by
          obtain ⟨r2, k2, c2, g2, s2, lr, lc, ti, go, R⟩ := (fun _ => hr (by omega)) z
          exact ⟨r2, k2, c2, g2, s2, lr, lc, ti, go, R⟩)⟩
    · rw [if_neg e]
      exact ⟨rfl, rfl, rfl, rfl, J, ⟨h8, h9, h10, h11, rfl, q0, q1, q2, q3⟩, b1, b2, q4, q5, (fun z => by
          obtain ⟨r2, k2, c2, g2, s2, lr, lc, ti, go, R⟩ := (fun _ => hr (by omega)) z
          exact ⟨r2, k2, c2, g2, s2, lr, lc, ti, go, R⟩)⟩
theorem eL_shape {n : Nat → Int32} {t : Nat → Nat → Int32} {on : Int64} {r kk c g s : Nat} {i1 : Int32} {i2 : Int32} {i3 : Int32} (hn : n 0 = nI r ∧ n 1 = nI kk ∧ n 2 = nI c ∧ n 3 = nI g ∧ n 4 = nI s) (hr : r ≤ 9) (hk : kk ≤ 9) (hc : c ≤ 9) : gL_shape n t on i1 i2 i3 = some (if yVs i1 i2 i3 = true then (0, va_up (va_up (va_up n 0 i1) 1 i2) 2 i3, va_up (va_up t 0 (yFl (t 0) 0 81)) 1 (yFl (t 1) 0 81), (nI (yCo r kk c (t 0) (t 1))).toInt64) else (1, va_up (va_up (va_up n 0 (nI r)) 1 (nI kk)) 2 (nI c), va_up (va_up t 0 (t 0)) 1 (t 1), on)) := by
  obtain ⟨h0, h1, h2, h3, h4⟩ := hn
  have e : fL_shape (nI r) (nI kk) (nI c) (t 0) (t 1) on i1 i2 i3 = some (if yVs i1 i2 i3 = true then (0, i1, i2, i3, yFl (t 0) 0 81, yFl (t 1) 0 81, (nI (yCo r kk c (t 0) (t 1))).toInt64) else (1, nI r, nI kk, nI c, t 0, t 1, on)) := by
    unfold fL_shape
    refine bto (e6_shape hr hk hc) ?_
    cases yVs i1 i2 i3 <;> rfl
  unfold gL_shape
  simp only [h0, h1, h2, h3, h4]
  refine bto e ?_
  cases yVs i1 i2 i3 <;> rfl
theorem eL_left {n : Nat → Int32} {t : Nat → Nat → Int32} {on : Int64} {r kk c g s : Nat} {i1 : Int32} {i2 : Int32} {i3 : Int32} (hn : n 0 = nI r ∧ n 1 = nI kk ∧ n 2 = nI c ∧ n 3 = nI g ∧ n 4 = nI s) (q1 : 1 ≤ r) (q2 : r ≤ 9) (q3 : 1 ≤ kk) (q4 : kk ≤ 9) : gL_left n t on i1 i2 i3 = some (if (yIn i1 0 (r - 1) && yIn i2 0 (kk - 1)) = true then (if yIn i3 (-9) 9 = true then (0, n, va_up t 0 (upd (t 0) (i1.toNatClampNeg * 9 + i2.toNatClampNeg) i3), (t 0 (i1.toNatClampNeg * 9 + i2.toNatClampNeg)).toInt64) else (2, n, va_up t 0 (t 0), on)) else (1, n, va_up t 0 (t 0), on)) := by
  obtain ⟨h0, h1, h2, h3, h4⟩ := hn
  have e : fL_left (nI r) (nI kk) (t 0) on i1 i2 i3 = some (if (yIn i1 0 (r - 1) && yIn i2 0 (kk - 1)) = true then (if yIn i3 (-9) 9 = true then (0, upd (t 0) (i1.toNatClampNeg * 9 + i2.toNatClampNeg) i3, (t 0 (i1.toNatClampNeg * 9 + i2.toNatClampNeg)).toInt64) else (2, t 0, on)) else (1, t 0, on)) := by
    unfold fL_left
    refine bto (e6_left q1 q2 q3 q4) ?_
    cases (yIn i1 0 (r - 1) && yIn i2 0 (kk - 1)) <;> cases yIn i3 (-9) 9 <;> rfl
  unfold gL_left
  simp only [h0, h1, h2, h3, h4]
  refine bto e ?_
  cases (yIn i1 0 (r - 1) && yIn i2 0 (kk - 1)) <;> cases yIn i3 (-9) 9 <;> rfl
theorem eL_top {n : Nat → Int32} {t : Nat → Nat → Int32} {on : Int64} {r kk c g s : Nat} {i1 : Int32} {i2 : Int32} {i3 : Int32} (hn : n 0 = nI r ∧ n 1 = nI kk ∧ n 2 = nI c ∧ n 3 = nI g ∧ n 4 = nI s) (q1 : 1 ≤ kk) (q2 : kk ≤ 9) (q3 : 1 ≤ c) (q4 : c ≤ 9) : gL_top n t on i1 i2 i3 = some (if (yIn i1 0 (kk - 1) && yIn i2 0 (c - 1)) = true then (if yIn i3 (-9) 9 = true then (0, n, va_up t 1 (upd (t 1) (i1.toNatClampNeg * 9 + i2.toNatClampNeg) i3), (t 1 (i1.toNatClampNeg * 9 + i2.toNatClampNeg)).toInt64) else (2, n, va_up t 1 (t 1), on)) else (1, n, va_up t 1 (t 1), on)) := by
  obtain ⟨h0, h1, h2, h3, h4⟩ := hn
  have e : fL_top (nI kk) (nI c) (t 1) on i1 i2 i3 = some (if (yIn i1 0 (kk - 1) && yIn i2 0 (c - 1)) = true then (if yIn i3 (-9) 9 = true then (0, upd (t 1) (i1.toNatClampNeg * 9 + i2.toNatClampNeg) i3, (t 1 (i1.toNatClampNeg * 9 + i2.toNatClampNeg)).toInt64) else (2, t 1, on)) else (1, t 1, on)) := by
    unfold fL_top
    refine bto (e6_top q1 q2 q3 q4) ?_
    cases (yIn i1 0 (kk - 1) && yIn i2 0 (c - 1)) <;> cases yIn i3 (-9) 9 <;> rfl
  unfold gL_top
  simp only [h0, h1, h2, h3, h4]
  refine bto e ?_
  cases (yIn i1 0 (kk - 1) && yIn i2 0 (c - 1)) <;> cases yIn i3 (-9) 9 <;> rfl
theorem eL_kind {n : Nat → Int32} {t : Nat → Nat → Int32} {on : Int64} {r kk c g s : Nat} {i1 : Int32} (hn : n 0 = nI r ∧ n 1 = nI kk ∧ n 2 = nI c ∧ n 3 = nI g ∧ n 4 = nI s)  : gL_kind n t on i1 = some (if yIn i1 0 2 = true then (0, va_up (va_up n 3 i1) 4 (if i1 = 0 then nI s else 0), t, (nI g).toInt64) else (1, va_up (va_up n 3 (nI g)) 4 (nI s), t, on)) := by
  obtain ⟨h0, h1, h2, h3, h4⟩ := hn
  have e : fL_kind (nI g) (nI s) on i1 = some (if yIn i1 0 2 = true then (0, i1, (if i1 = 0 then nI s else 0), (nI g).toInt64) else (1, nI g, nI s, on)) := by
    unfold fL_kind
    refine bto (e6_kind) ?_
    cases yIn i1 0 2 <;> rfl
  unfold gL_kind
  simp only [h0, h1, h2, h3, h4]
  refine bto e ?_
  cases yIn i1 0 2 <;> rfl
theorem yb64 {x : Int32} (h : Bo x) : (if x = 0 then some (0 : Int64) else some 1) = some x.toInt64 := by rcases h with rfl | rfl <;> rfl
theorem nj_bo {s : Nat} (h : s ≤ 1) : Bo (nI s) := by
  rcases (show s = 0 ∨ s = 1 by omega) with rfl | rfl
  · exact Or.inl rfl
  · exact Or.inr rfl
theorem eL_checked {n : Nat → Int32} {t : Nat → Nat → Int32} {on : Int64} {r kk c g s : Nat} {i1 : Int32} (hn : n 0 = nI r ∧ n 1 = nI kk ∧ n 2 = nI c ∧ n 3 = nI g ∧ n 4 = nI s) (hg : g ≤ 2) (hs : s ≤ 1) (hb : Bo i1) : gL_checked n t on i1 = some (if i1 = 0 ∨ g = 0 then (0, va_up n 4 i1, t, (nI s).toInt64) else (1, va_up n 4 (nI s), t, on)) := by
  obtain ⟨h0, h1, h2, h3, h4⟩ := hn
  have e : fL_checked (nI g) (nI s) on i1 = some (if i1 = 0 ∨ g = 0 then (0, i1, (nI s).toInt64) else (1, nI s, on)) := by
    unfold fL_checked
    refine bto (e6_checked hg hs hb) ?_
    by_cases h : i1 = 0 ∨ g = 0
    · rw [if_pos h, if_pos h, ybr_ir]
      exact bto (yb64 (nj_bo hs)) rfl
    · rw [if_neg h, if_neg h]
      rfl
  unfold gL_checked
  simp only [h3, h4]
  refine bto e ?_
  by_cases h : i1 = 0 ∨ g = 0
  · rw [if_pos h, if_pos h]
  · rw [if_neg h, if_neg h]
theorem sim_shape {n : Nat → Int32} {t : Nat → Nat → Int32} {sh : Nat} {m : Nat → Int32} {L : Int64} {k : Nat → Nat} {G : Nat → Nat → Nat → Int32} {on : Int64} {i1 : Int32} {i2 : Int32} {i3 : Int32} (h : yR2 n t sh m k G) : ∃ x y, gL_shape n t on i1 i2 i3 = some x ∧ gX9w_shape sh m L k G i1 i2 i3 = some y ∧ yR2 x.2.1 x.2.2.1 y.2.1 y.2.2.1 y.2.2.2.2.1 y.2.2.2.2.2 ∧ y.2.2.1 0 = x.1 ∧ (x.1 = 0 → x.2.2.2 = y.1.toInt64) := by
  obtain ⟨hC, r, kk, c, g, s, hM, hn, h0, h1⟩ := h
  obtain ⟨⟨a1, a2⟩, ⟨a3, a4⟩, ⟨a5, a6⟩, a7, a8⟩ := id hM.1
  have ex := eL_shape (t := t) (on := on) (i1 := i1) (i2 := i2) (i3 := i3) hn (by omega) (by omega) (by omega)
  obtain ⟨y, ey, P⟩ := eM_shape (L := L) (i1 := i1) (i2 := i2) (i3 := i3) hM
  obtain ⟨x', ex', px⟩ := ogL_shape (t := t) (on := on) (i1 := i1) (i2 := i2) (i3 := i3) hC
  obtain ⟨hn0, hn1, hn2, hn3, hn4⟩ := hn
  cases e : yVs i1 i2 i3
  · obtain ⟨p1, p2, p3, p4⟩ := P.2 e
    rw [if_neg (show ¬ yVs i1 i2 i3 = true by rw [e]; decide)] at ex
    rw [ex] at ex'
    cases ex'
    refine ⟨_, y, ex, ey, ⟨px, r, kk, c, g, s, p4, ⟨rfl, rfl, rfl, hn3, hn4⟩, ?_, ?_⟩, p1, fun z => absurd z (by first | exact (show ¬ (1 : Int32) = 0 by decide) | exact (show ¬ (2 : Int32) = 0 by decide))⟩
    · rw [p2]
      exact h0
    · rw [p3]
      exact h1
  · obtain ⟨p0, p1, p2, p3, r2, k2, c2, u1, u2, u3, p4⟩ := P.1 e
    rw [if_pos e] at ex
    rw [ex] at ex'
    cases ex'
    refine ⟨_, y, ex, ey, ⟨px, r2, k2, c2, g, s, p4, ⟨u1, u2, u3, hn3, hn4⟩, ?_, ?_⟩, p1, fun z => ?_⟩
    · rw [p2]
      exact yTG_z
    · rw [p3]
      exact yTG_z
    · rw [p0]
      show (nI (yCo r kk c (t 0) (t 1))).toInt64 = _
      rw [yCo_eq h0 h1 (by omega) (by omega) (by omega)]
theorem sim_left {n : Nat → Int32} {t : Nat → Nat → Int32} {sh : Nat} {m : Nat → Int32} {L : Int64} {k : Nat → Nat} {G : Nat → Nat → Nat → Int32} {on : Int64} {i1 : Int32} {i2 : Int32} {i3 : Int32} (h : yR2 n t sh m k G) : ∃ x y, gL_left n t on i1 i2 i3 = some x ∧ gX9w_left sh m L k G i1 i2 i3 = some y ∧ yR2 x.2.1 x.2.2.1 y.2.1 y.2.2.1 y.2.2.2.2.1 y.2.2.2.2.2 ∧ y.2.2.1 0 = x.1 ∧ (x.1 = 0 → x.2.2.2 = y.1.toInt64) := by
  obtain ⟨hC, r, kk, c, g, s, hM, hn, h0, h1⟩ := h
  obtain ⟨⟨a1, a2⟩, ⟨a3, a4⟩, ⟨a5, a6⟩, a7, a8⟩ := id hM.1
  have ex := eL_left (t := t) (on := on) (i1 := i1) (i2 := i2) (i3 := i3) hn a1 (by omega) a3 (by omega)
  obtain ⟨y, ey, P⟩ := eM_left (L := L) (i1 := i1) (i2 := i2) (i3 := i3) hM
  obtain ⟨x', ex', px⟩ := ogL_left (t := t) (on := on) (i1 := i1) (i2 := i2) (i3 := i3) hC
  obtain ⟨hn0, hn1, hn2, hn3, hn4⟩ := hn
  cases e : (yIn i1 0 (r - 1) && yIn i2 0 (kk - 1))
  · obtain ⟨p1, p2, p3, p4⟩ := P.2.2 e
    rw [if_neg (show ¬ (yIn i1 0 (r - 1) && yIn i2 0 (kk - 1)) = true by rw [e]; decide)] at ex
    rw [ex] at ex'
    cases ex'
    refine ⟨_, y, ex, ey, ⟨px, r, kk, c, g, s, p4, ⟨hn0, hn1, hn2, hn3, hn4⟩, ?_, ?_⟩, p1, fun z => absurd z (by first | exact (show ¬ (1 : Int32) = 0 by decide) | exact (show ¬ (2 : Int32) = 0 by decide))⟩
    · rw [p2]
      exact h0
    · rw [p3]
      exact h1
  cases e2 : yIn i3 (-9) 9
  · obtain ⟨p1, p2, p3, p4⟩ := P.2.1 e e2
    rw [if_pos e, if_neg (show ¬ yIn i3 (-9) 9 = true by rw [e2]; decide)] at ex
    rw [ex] at ex'
    cases ex'
    refine ⟨_, y, ex, ey, ⟨px, r, kk, c, g, s, p4, ⟨hn0, hn1, hn2, hn3, hn4⟩, ?_, ?_⟩, p1, fun z => absurd z (by first | exact (show ¬ (1 : Int32) = 0 by decide) | exact (show ¬ (2 : Int32) = 0 by decide))⟩
    · rw [p2]
      exact h0
    · rw [p3]
      exact h1
  · obtain ⟨p0, p1, p2, p3, p4⟩ := P.1 e e2
    rw [if_pos e, if_pos e2] at ex
    rw [ex] at ex'
    cases ex'
    rw [Bool.and_eq_true] at e
    have e3 := yIn_of e.1
    have e4 := yIn_of e.2
    have d1 := yi_cl (x := i1) (by omega)
    have d2 := yi_cl (x := i2) (by omega)
    have w1 : i1.toNatClampNeg < 9 := by omega
    have w2 : i2.toNatClampNeg < 9 := by omega
    refine ⟨_, y, ex, ey, ⟨px, r, kk, c, g, s, p4, ⟨hn0, hn1, hn2, hn3, hn4⟩, ?_, ?_⟩, p1, fun z => ?_⟩
    · rw [p2]
      exact yTG_up h0 w1 w2
    · rw [p3]
      exact h1
    · rw [p0, ← h0 _ _ w1 w2]
theorem sim_top {n : Nat → Int32} {t : Nat → Nat → Int32} {sh : Nat} {m : Nat → Int32} {L : Int64} {k : Nat → Nat} {G : Nat → Nat → Nat → Int32} {on : Int64} {i1 : Int32} {i2 : Int32} {i3 : Int32} (h : yR2 n t sh m k G) : ∃ x y, gL_top n t on i1 i2 i3 = some x ∧ gX9w_top sh m L k G i1 i2 i3 = some y ∧ yR2 x.2.1 x.2.2.1 y.2.1 y.2.2.1 y.2.2.2.2.1 y.2.2.2.2.2 ∧ y.2.2.1 0 = x.1 ∧ (x.1 = 0 → x.2.2.2 = y.1.toInt64) := by
  obtain ⟨hC, r, kk, c, g, s, hM, hn, h0, h1⟩ := h
  obtain ⟨⟨a1, a2⟩, ⟨a3, a4⟩, ⟨a5, a6⟩, a7, a8⟩ := id hM.1
  have ex := eL_top (t := t) (on := on) (i1 := i1) (i2 := i2) (i3 := i3) hn a3 (by omega) a5 (by omega)
  obtain ⟨y, ey, P⟩ := eM_top (L := L) (i1 := i1) (i2 := i2) (i3 := i3) hM
  obtain ⟨x', ex', px⟩ := ogL_top (t := t) (on := on) (i1 := i1) (i2 := i2) (i3 := i3) hC
  obtain ⟨hn0, hn1, hn2, hn3, hn4⟩ := hn
  cases e : (yIn i1 0 (kk - 1) && yIn i2 0 (c - 1))
  · obtain ⟨p1, p2, p3, p4⟩ := P.2.2 e
    rw [if_neg (show ¬ (yIn i1 0 (kk - 1) && yIn i2 0 (c - 1)) = true by rw [e]; decide)] at ex
    rw [ex] at ex'
    cases ex'
    refine ⟨_, y, ex, ey, ⟨px, r, kk, c, g, s, p4, ⟨hn0, hn1, hn2, hn3, hn4⟩, ?_, ?_⟩, p1, fun z => absurd z (by first | exact (show ¬ (1 : Int32) = 0 by decide) | exact (show ¬ (2 : Int32) = 0 by decide))⟩
    · rw [p2]
      exact h0
    · rw [p3]
      exact h1
  cases e2 : yIn i3 (-9) 9
  · obtain ⟨p1, p2, p3, p4⟩ := P.2.1 e e2
    rw [if_pos e, if_neg (show ¬ yIn i3 (-9) 9 = true by rw [e2]; decide)] at ex
    rw [ex] at ex'
    cases ex'
    refine ⟨_, y, ex, ey, ⟨px, r, kk, c, g, s, p4, ⟨hn0, hn1, hn2, hn3, hn4⟩, ?_, ?_⟩, p1, fun z => absurd z (by first | exact (show ¬ (1 : Int32) = 0 by decide) | exact (show ¬ (2 : Int32) = 0 by decide))⟩
    · rw [p2]
      exact h0
    · rw [p3]
      exact h1
  · obtain ⟨p0, p1, p2, p3, p4⟩ := P.1 e e2
    rw [if_pos e, if_pos e2] at ex
    rw [ex] at ex'
    cases ex'
    rw [Bool.and_eq_true] at e
    have e3 := yIn_of e.1
    have e4 := yIn_of e.2
    have d1 := yi_cl (x := i1) (by omega)
    have d2 := yi_cl (x := i2) (by omega)
    have w1 : i1.toNatClampNeg < 9 := by omega
    have w2 : i2.toNatClampNeg < 9 := by omega
    refine ⟨_, y, ex, ey, ⟨px, r, kk, c, g, s, p4, ⟨hn0, hn1, hn2, hn3, hn4⟩, ?_, ?_⟩, p1, fun z => ?_⟩
    · rw [p3]
      exact h0
    · rw [p2]
      exact yTG_up h1 w1 w2
    · rw [p0, ← h1 _ _ w1 w2]
theorem sim_kind {n : Nat → Int32} {t : Nat → Nat → Int32} {sh : Nat} {m : Nat → Int32} {L : Int64} {k : Nat → Nat} {G : Nat → Nat → Nat → Int32} {on : Int64} {i1 : Int32} (h : yR2 n t sh m k G) : ∃ x y, gL_kind n t on i1 = some x ∧ gX9w_kind sh m L k G i1 = some y ∧ yR2 x.2.1 x.2.2.1 y.2.1 y.2.2.1 y.2.2.2.2.1 y.2.2.2.2.2 ∧ y.2.2.1 0 = x.1 ∧ (x.1 = 0 → x.2.2.2 = y.1.toInt64) := by
  obtain ⟨hC, r, kk, c, g, s, hM, hn, h0, h1⟩ := h
  obtain ⟨⟨a1, a2⟩, ⟨a3, a4⟩, ⟨a5, a6⟩, a7, a8⟩ := id hM.1
  have ex := eL_kind (t := t) (on := on) (i1 := i1) hn 
  obtain ⟨y, ey, P⟩ := eM_kind (L := L) (i1 := i1) hM
  obtain ⟨x', ex', px⟩ := ogL_kind (t := t) (on := on) (i1 := i1) hC
  obtain ⟨hn0, hn1, hn2, hn3, hn4⟩ := hn
  cases e : yIn i1 0 2
  · obtain ⟨p1, p2, p3, p4⟩ := P.2 e
    rw [if_neg (show ¬ yIn i1 0 2 = true by rw [e]; decide)] at ex
    rw [ex] at ex'
    cases ex'
    refine ⟨_, y, ex, ey, ⟨px, r, kk, c, g, s, p4, ⟨hn0, hn1, hn2, rfl, rfl⟩, ?_, ?_⟩, p1, fun z => absurd z (by first | exact (show ¬ (1 : Int32) = 0 by decide) | exact (show ¬ (2 : Int32) = 0 by decide))⟩
    · rw [p2]
      exact h0
    · rw [p3]
      exact h1
  · obtain ⟨p0, p1, p2, p3, g2, s2, u1, u2, p4⟩ := P.1 e
    rw [if_pos e] at ex
    rw [ex] at ex'
    cases ex'
    refine ⟨_, y, ex, ey, ⟨px, r, kk, c, g2, s2, p4, ⟨hn0, hn1, hn2, u1, u2⟩, ?_, ?_⟩, p1, fun z => ?_⟩
    · rw [p2]
      exact h0
    · rw [p3]
      exact h1
    · rw [p0]
theorem sim_checked {n : Nat → Int32} {t : Nat → Nat → Int32} {sh : Nat} {m : Nat → Int32} {L : Int64} {k : Nat → Nat} {G : Nat → Nat → Nat → Int32} {on : Int64} {i1 : Int32} (h : yR2 n t sh m k G) (hb : Bo i1) : ∃ x y, gL_checked n t on i1 = some x ∧ gX9w_checked sh m L k G i1 = some y ∧ yR2 x.2.1 x.2.2.1 y.2.1 y.2.2.1 y.2.2.2.2.1 y.2.2.2.2.2 ∧ y.2.2.1 0 = x.1 ∧ (x.1 = 0 → x.2.2.2 = y.1.toInt64) ∧ Bo y.1 := by
  obtain ⟨hC, r, kk, c, g, s, hM, hn, h0, h1⟩ := h
  obtain ⟨⟨a1, a2⟩, ⟨a3, a4⟩, ⟨a5, a6⟩, a7, a8⟩ := id hM.1
  have ex := eL_checked (t := t) (on := on) (i1 := i1) hn a7 a8 hb
  obtain ⟨y, ey, P⟩ := eM_checked (L := L) (i1 := i1) hM hb
  obtain ⟨x', ex', px⟩ := ogL_checked (t := t) (on := on) (i1 := i1) hC hb
  obtain ⟨hn0, hn1, hn2, hn3, hn4⟩ := hn
  by_cases e : i1 = 0 ∨ g = 0
  · obtain ⟨p0, p1, p2, p3, s2, u1, p4⟩ := P.1 e
    rw [if_pos e] at ex
    rw [ex] at ex'
    cases ex'
    refine ⟨_, y, ex, ey, ⟨px, r, kk, c, g, s2, p4, ⟨hn0, hn1, hn2, hn3, u1⟩, ?_, ?_⟩, p1, fun z => ?_, by rw [p0]; exact nj_bo a8⟩
    · rw [p2]
      exact h0
    · rw [p3]
      exact h1
    · rw [p0]
  · obtain ⟨p0, p1, p2, p3, p4⟩ := P.2 e
    rw [if_neg e] at ex
    rw [ex] at ex'
    cases ex'
    refine ⟨_, y, ex, ey, ⟨px, r, kk, c, g, s, p4, ⟨hn0, hn1, hn2, hn3, rfl⟩, ?_, ?_⟩, p1, fun z => absurd z (by first | exact (show ¬ (1 : Int32) = 0 by decide) | exact (show ¬ (2 : Int32) = 0 by decide)), Or.inl p0⟩
    · rw [p2]
      exact h0
    · rw [p3]
      exact h1
