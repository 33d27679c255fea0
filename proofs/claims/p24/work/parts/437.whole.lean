theorem yCmp (a b : Int64) : (lg_cmp a b = 0) = (a = b) := by
  unfold lg_cmp
  refine propext ⟨fun h => ?_, fun h => ?_⟩
  · by_cases c : a > b
    · rw [if_pos c] at h
      exact absurd h (by decide)
    · rw [if_neg c] at h
      by_cases e : a = b
      · exact e
      · rw [if_neg e] at h
        exact absurd h (by decide)
  · rw [h, if_neg (show ¬ b > b from Int64.lt_irrefl), if_pos rfl]
theorem wl_fold {α : Type} {body : α × Int32 → Option ((α × Int32) ⊕ (α × Int32))} (f : Nat → α → α) (n : Nat) (d0 : α) (hn : n < 4000) (step : ∀ i d, i < n → body (d, nI i) = some (.inl (f i d, nI (i + 1)))) (fin : ∀ d, body (d, nI n) = some (.inr (d, nI n))) : wl body yFuel (d0, 0) = some (yFold n f d0, nI n) := wl_eq (fun i => (yFold i f d0, nI i)) 0 n rfl (Nat.zero_le _) hn (fun i _ hi => step i _ hi) (fin _)
def yAd (d : Int64) (x : Int32) : Int64 := d * 31 + x.toInt64
def yD1 (v : Nat → Int32) (d : Int64) : Int64 := yFold 16 (fun w d => yAd d (yMT v (nI w))) d
def yD2 (f : Nat → Nat → Nat → Int32) (d : Int64) : Int64 := yFold 5 (fun i d => yFold 5 (fun j d => yFold 4 (fun w d => yAd d (f i j w)) d) d) d
def yD4 (f : Int32 → Int32) (d : Int64) : Int64 := yFold 5 (fun w d => yAd d (f (nI w))) d
def yD3 (n k : Nat) (R : Nat → Nat → Int32) (d : Int64) : Int64 := yFold n (fun i d => yFold k (fun j d => yAd d (R i j)) d) d
