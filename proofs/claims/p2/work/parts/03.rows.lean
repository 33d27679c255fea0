/-! small words of our own -/
def xn_min (x y : Int32) : Int32 := if y < x then y else x
def xn_max (x y : Int32) : Int32 := if x < y then y else x
def xn_b (b : Bool) : Int32 := if b then 1 else 0
theorem xn_nar (b : Bool) : narrow .boolean (.int (xn_b b)) = .int (xn_b b) := by cases b <;> decide
theorem xn_inc (j : Nat) : nI j + Int32.ofInt 1 = nI (j + 1) := nI_1 j
/-- rows: n arrays of k places each, at ad 0 .. ad (n-1), the i-th with the values G i -/
def xg_rows (ad : Nat → Nat) (n : Nat) (cA : ClassId) (k : Nat) (G : Nat → Nat → Int32) : va_W := (List.range n).map (fun i => (ad i, .inl (cA, k, .inl (G i))))
theorem xg_at {ad : Nat → Nat} {n : Nat} {cA : ClassId} {k : Nat} {G : Nat → Nat → Int32} {i : Nat} (h : i < n) : (xg_rows ad n cA k G)[i]? = some (ad i, .inl (cA, k, .inl (G i))) := by
  unfold xg_rows
  rw [List.getElem?_map, List.getElem?_range h]
  rfl
def xn_nw : List Cond := [.fieldLinkNest "Pulsemesh" 80 "Pulsemesh$Job" "a" "LPulsemesh$Table;" "Pulsemesh", .fieldLinkNest "Pulsemesh" 98 "Pulsemesh$Job" "b" "LPulsemesh$Table;" "Pulsemesh", .fieldLinkNest "Pulsemesh" 62 "Pulsemesh$Job" "\x72" "I" "Pulsemesh", .fieldLinkNest "Pulsemesh" 66 "Pulsemesh$Job" "k" "I" "Pulsemesh", .fieldLinkNest "Pulsemesh" 93 "Pulsemesh$Job" "c" "I" "Pulsemesh", .fieldLinkNest "Pulsemesh" 103 "Pulsemesh$Job" "reckoning" "I" "Pulsemesh", .fieldLinkNest "Pulsemesh$Results" 38 "Pulsemesh$Job" "hasSums" "Z" "Pulsemesh", .fieldLinkNest "Pulsemesh" 106 "Pulsemesh$Job" "hasSums" "Z" "Pulsemesh", .fieldLinkNest "Pulsemesh" 289 "Pulsemesh$Cells" "uses" "LPulsemesh$Table;" "Pulsemesh", .fieldLinkNest "Pulsemesh$Work" 71 "Pulsemesh$Cells" "sums" "LPulsemesh$Table;" "Pulsemesh", .fieldLinkNest "Pulsemesh" 295 "Pulsemesh$Cells" "sums" "LPulsemesh$Table;" "Pulsemesh", .fieldLinkNest "Pulsemesh" 125 "Pulsemesh$Cells" "brokenSet" "I" "Pulsemesh", .fieldLinkNest "Pulsemesh" 271 "Pulsemesh$Cells" "knownSet" "I" "Pulsemesh", .fieldLinkNest "Pulsemesh" 176 "Pulsemesh$Results" "values" "LPulsemesh$Table;" "Pulsemesh", .fieldLinkNest "Pulsemesh$Work" 156 "Pulsemesh$Results" "values" "LPulsemesh$Table;" "Pulsemesh", .fieldLinkNest "Pulsemesh" 179 "Pulsemesh$Results" "rows" "I" "Pulsemesh", .fieldLinkNest "Pulsemesh" 283 "Pulsemesh$Results" "columns" "I" "Pulsemesh", .fieldLinkNest "Pulsemesh" 182 "Pulsemesh$Results" "haveSums" "Z" "Pulsemesh", .fieldLinkNest "Pulsemesh$Work" 89 "Pulsemesh$Layout" "jobRows" "I" "Pulsemesh", .fieldLinkNest "Pulsemesh$Work" 101 "Pulsemesh$Layout" "jobColumns" "I" "Pulsemesh", .fieldLinkNest "Pulsemesh$Work" 110 "Pulsemesh$Layout" "steps" "I" "Pulsemesh", .fieldLinkNest "Pulsemesh" 315 "Pulsemesh$Layout" "steps" "I" "Pulsemesh", .fieldLinkNest "Pulsemesh$Work" 127 "Pulsemesh$Layout" "rows" "I" "Pulsemesh", .fieldLinkNest "Pulsemesh" 307 "Pulsemesh$Layout" "rows" "I" "Pulsemesh", .fieldLinkNest "Pulsemesh$Work" 130 "Pulsemesh$Layout" "columns" "I" "Pulsemesh", .fieldLinkNest "Pulsemesh" 308 "Pulsemesh$Layout" "columns" "I" "Pulsemesh", .fieldLinkNest "Pulsemesh$Work" 86 "Pulsemesh$Layout" "height" "I" "Pulsemesh", .fieldLinkNest "Pulsemesh$Work" 98 "Pulsemesh$Layout" "width" "I" "Pulsemesh", .fieldLinkNest "Pulsemesh$Work" 64 "Pulsemesh$Layout" "beatsInAll" "I" "Pulsemesh", .fieldLinkNest "Pulsemesh" 304 "Pulsemesh$Layout" "beatsInAll" "I" "Pulsemesh", .fieldLinkNest "Pulsemesh" 280 "Pulsemesh$Work" "tile" "I" "Pulsemesh", .fieldLinkNest "Pulsemesh" 158 "Pulsemesh$Work" "beatsLeft" "I" "Pulsemesh", .fieldLinkNest "Pulsemesh" 274 "Pulsemesh$Work" "beatsEve\x72" "I" "Pulsemesh", .fieldLinkNest "Pulsemesh" 277 "Pulsemesh$Work" "startsEve\x72" "I" "Pulsemesh", .fieldLinkNest "Pulsemesh" 350 "Pulsemesh$Work" "takenByTilesDone" "I" "Pulsemesh", .fieldLinkNest "PulsemeshLaw" 13 "PulsemeshLaw$Out" "n" "J" "PulsemeshLaw", .fieldLinkNest "PulsemeshLaw" 76 "PulsemeshLaw$Out" "s" "Ljava/lang/String;" "PulsemeshLaw", .methodLinkNest "Pulsemesh" 9 ⟨"Pulsemesh$Job", "<init>", "()V"⟩ "Pulsemesh", .methodLinkNest "Pulsemesh$Job" 11 ⟨"Pulsemesh$Table", "<init>", "()V"⟩ "Pulsemesh", .methodLinkNest "Pulsemesh" 18 ⟨"Pulsemesh$Cells", "<init>", "()V"⟩ "Pulsemesh", .methodLinkNest "Pulsemesh$Cells" 11 ⟨"Pulsemesh$Table", "<init>", "()V"⟩ "Pulsemesh", .methodLinkNest "Pulsemesh" 25 ⟨"Pulsemesh$Results", "<init>", "()V"⟩ "Pulsemesh", .methodLinkNest "Pulsemesh$Results" 11 ⟨"Pulsemesh$Table", "<init>", "()V"⟩ "Pulsemesh", .methodLinkNest "Pulsemesh" 32 ⟨"Pulsemesh$Work", "<init>", "()V"⟩ "Pulsemesh", .methodLinkNest "Pulsemesh$Work" 11 ⟨"Pulsemesh$Job", "<init>", "()V"⟩ "Pulsemesh", .methodLinkNest "Pulsemesh$Work" 20 ⟨"Pulsemesh$Layout", "<init>", "()V"⟩ "Pulsemesh", .methodLinkNest "Pulsemesh" 39 ⟨"Pulsemesh$Layout", "<init>", "()V"⟩ "Pulsemesh", .methodLinkNest "PulsemeshLaw" 90 ⟨"PulsemeshLaw$Out", "<init>", "()V"⟩ "PulsemeshLaw", .methodLinkNest "PulsemeshModel" 15 ⟨"PulsemeshModel$Work", "<init>", "()V"⟩ "PulsemeshModel", .methodLinkNest "PulsemeshModel$Work" 17 ⟨"PulsemeshModel", "one", "(Z)I"⟩ "PulsemeshModel"]
theorem xn_nw_tab : ∀ w, w ∈ xn_nw → w.onTables = true := by decide +kernel
theorem xn_nw_kind : ∀ w, w ∈ xn_nw → (∃ a i b n d h, w = .fieldLinkNest a i b n d h) ∨ (∃ a i x h, w = .methodLinkNest a i x h) := by
  unfold xn_nw
  refine List.forall_mem_cons.mpr ⟨Or.inl ⟨_, _, _, _, _, _, rfl⟩, ?_⟩
  refine List.forall_mem_cons.mpr ⟨Or.inl ⟨_, _, _, _, _, _, rfl⟩, ?_⟩
  refine List.forall_mem_cons.mpr ⟨Or.inl ⟨_, _, _, _, _, _, rfl⟩, ?_⟩
  refine List.forall_mem_cons.mpr ⟨Or.inl ⟨_, _, _, _, _, _, rfl⟩, ?_⟩
  refine List.forall_mem_cons.mpr ⟨Or.inl ⟨_, _, _, _, _, _, rfl⟩, ?_⟩
  refine List.forall_mem_cons.mpr ⟨Or.inl ⟨_, _, _, _, _, _, rfl⟩, ?_⟩
  refine List.forall_mem_cons.mpr ⟨Or.inl ⟨_, _, _, _, _, _, rfl⟩, ?_⟩
  refine List.forall_mem_cons.mpr ⟨Or.inl ⟨_, _, _, _, _, _, rfl⟩, ?_⟩
  refine List.forall_mem_cons.mpr ⟨Or.inl ⟨_, _, _, _, _, _, rfl⟩, ?_⟩
  refine List.forall_mem_cons.mpr ⟨Or.inl ⟨_, _, _, _, _, _, rfl⟩, ?_⟩
  refine List.forall_mem_cons.mpr ⟨Or.inl ⟨_, _, _, _, _, _, rfl⟩, ?_⟩
  refine List.forall_mem_cons.mpr ⟨Or.inl ⟨_, _, _, _, _, _, rfl⟩, ?_⟩
  refine List.forall_mem_cons.mpr ⟨Or.inl ⟨_, _, _, _, _, _, rfl⟩, ?_⟩
  refine List.forall_mem_cons.mpr ⟨Or.inl ⟨_, _, _, _, _, _, rfl⟩, ?_⟩
  refine List.forall_mem_cons.mpr ⟨Or.inl ⟨_, _, _, _, _, _, rfl⟩, ?_⟩
  refine List.forall_mem_cons.mpr ⟨Or.inl ⟨_, _, _, _, _, _, rfl⟩, ?_⟩
  refine List.forall_mem_cons.mpr ⟨Or.inl ⟨_, _, _, _, _, _, rfl⟩, ?_⟩
  refine List.forall_mem_cons.mpr ⟨Or.inl ⟨_, _, _, _, _, _, rfl⟩, ?_⟩
  refine List.forall_mem_cons.mpr ⟨Or.inl ⟨_, _, _, _, _, _, rfl⟩, ?_⟩
  refine List.forall_mem_cons.mpr ⟨Or.inl ⟨_, _, _, _, _, _, rfl⟩, ?_⟩
  refine List.forall_mem_cons.mpr ⟨Or.inl ⟨_, _, _, _, _, _, rfl⟩, ?_⟩
  refine List.forall_mem_cons.mpr ⟨Or.inl ⟨_, _, _, _, _, _, rfl⟩, ?_⟩
  refine List.forall_mem_cons.mpr ⟨Or.inl ⟨_, _, _, _, _, _, rfl⟩, ?_⟩
  refine List.forall_mem_cons.mpr ⟨Or.inl ⟨_, _, _, _, _, _, rfl⟩, ?_⟩
  refine List.forall_mem_cons.mpr ⟨Or.inl ⟨_, _, _, _, _, _, rfl⟩, ?_⟩
  refine List.forall_mem_cons.mpr ⟨Or.inl ⟨_, _, _, _, _, _, rfl⟩, ?_⟩
  refine List.forall_mem_cons.mpr ⟨Or.inl ⟨_, _, _, _, _, _, rfl⟩, ?_⟩
  refine List.forall_mem_cons.mpr ⟨Or.inl ⟨_, _, _, _, _, _, rfl⟩, ?_⟩
  refine List.forall_mem_cons.mpr ⟨Or.inl ⟨_, _, _, _, _, _, rfl⟩, ?_⟩
  refine List.forall_mem_cons.mpr ⟨Or.inl ⟨_, _, _, _, _, _, rfl⟩, ?_⟩
  refine List.forall_mem_cons.mpr ⟨Or.inl ⟨_, _, _, _, _, _, rfl⟩, ?_⟩
  refine List.forall_mem_cons.mpr ⟨Or.inl ⟨_, _, _, _, _, _, rfl⟩, ?_⟩
  refine List.forall_mem_cons.mpr ⟨Or.inl ⟨_, _, _, _, _, _, rfl⟩, ?_⟩
  refine List.forall_mem_cons.mpr ⟨Or.inl ⟨_, _, _, _, _, _, rfl⟩, ?_⟩
  refine List.forall_mem_cons.mpr ⟨Or.inl ⟨_, _, _, _, _, _, rfl⟩, ?_⟩
  refine List.forall_mem_cons.mpr ⟨Or.inl ⟨_, _, _, _, _, _, rfl⟩, ?_⟩
  refine List.forall_mem_cons.mpr ⟨Or.inl ⟨_, _, _, _, _, _, rfl⟩, ?_⟩
  refine List.forall_mem_cons.mpr ⟨Or.inr ⟨_, _, _, _, rfl⟩, ?_⟩
  refine List.forall_mem_cons.mpr ⟨Or.inr ⟨_, _, _, _, rfl⟩, ?_⟩
  refine List.forall_mem_cons.mpr ⟨Or.inr ⟨_, _, _, _, rfl⟩, ?_⟩
  refine List.forall_mem_cons.mpr ⟨Or.inr ⟨_, _, _, _, rfl⟩, ?_⟩
  refine List.forall_mem_cons.mpr ⟨Or.inr ⟨_, _, _, _, rfl⟩, ?_⟩
  refine List.forall_mem_cons.mpr ⟨Or.inr ⟨_, _, _, _, rfl⟩, ?_⟩
  refine List.forall_mem_cons.mpr ⟨Or.inr ⟨_, _, _, _, rfl⟩, ?_⟩
  refine List.forall_mem_cons.mpr ⟨Or.inr ⟨_, _, _, _, rfl⟩, ?_⟩
  refine List.forall_mem_cons.mpr ⟨Or.inr ⟨_, _, _, _, rfl⟩, ?_⟩
  refine List.forall_mem_cons.mpr ⟨Or.inr ⟨_, _, _, _, rfl⟩, ?_⟩
  refine List.forall_mem_cons.mpr ⟨Or.inr ⟨_, _, _, _, rfl⟩, ?_⟩
  refine List.forall_mem_cons.mpr ⟨Or.inr ⟨_, _, _, _, rfl⟩, ?_⟩
  refine List.forall_mem_cons.mpr ⟨Or.inr ⟨_, _, _, _, rfl⟩, ?_⟩
  exact fun w h => absurd h List.not_mem_nil
theorem xn_nw_warm (w : Cond) (hw : w ∈ xn_nw) {s U : State} (hW : s.WarmedH U.vm) (h : va_Nw w s) : va_Nw w U := by
  rcases xn_nw_kind w hw with ⟨a, i, b, n, d, hh, rfl⟩ | ⟨a, i, x, hh, rfl⟩
  · exact va_Nw.warmF hW h
  · exact va_Nw.warmM hW h
/-! ===== worlds of blocks, and the frame's picture: X ===== -/
section XW
theorem xw_mem {D : va_G} {cl : List vw_C} {ws : va_W} {H : Heap} (h : va_P D cl ws H) {q : Nat × va_E} (hq : q ∈ ws) : va_at D cl q H := by
  obtain ⟨k, hk⟩ := List.getElem?_of_mem hq
  exact h k q hk
theorem xw_of {D : va_G} {cl : List vw_C} {ws : va_W} {H : Heap} (h : ∀ q, q ∈ ws → va_at D cl q H) : va_P D cl ws H := fun _ q hk => h q (List.mem_of_getElem? hk)
theorem xw_nd {A : Nat → Prop} {ws : va_W} (h : va_D A ws) : (ws.map Prod.fst).Nodup := by
  refine List.pairwise_iff_getElem.mpr fun i j hi hj hij e => ?_
  rw [List.length_map] at hi hj
  rw [List.getElem_map, List.getElem_map] at e
  have := h.1 i j _ _ (List.getElem?_eq_getElem hi) (List.getElem?_eq_getElem hj) e
  omega
theorem xw_dA {A : Nat → Prop} {ws : va_W} (h : va_D A ws) {q : Nat × va_E} (hq : q ∈ ws) : A q.1 := by
  obtain ⟨k, hk⟩ := List.getElem?_of_mem hq
  exact h.2 k q hk
theorem xw_d {A : Nat → Prop} {ws : va_W} (hn : (ws.map Prod.fst).Nodup) (hA : ∀ q, q ∈ ws → A q.1) : va_D A ws := by
  have hp := List.pairwise_iff_getElem.mp hn
  refine ⟨fun i j p q hi hj e => ?_, fun k q hk => hA q (List.mem_of_getElem? hk)⟩
  obtain ⟨hi', rfl⟩ := List.getElem?_eq_some_iff.mp hi
  obtain ⟨hj', rfl⟩ := List.getElem?_eq_some_iff.mp hj
  rcases Nat.lt_trichotomy i j with h | h | h
  · exact absurd (by rw [List.getElem_map, List.getElem_map]; exact e) (hp i j (by simpa using hi') (by simpa using hj') h)
  · exact h
  · exact absurd (by rw [List.getElem_map, List.getElem_map]; exact e.symm) (hp j i (by simpa using hj') (by simpa using hi') h)
theorem xw_pf {α : Type} {l l' : List (List α)} (h : l.Perm l') : l.flatten.Perm l'.flatten := by
  induction h with
  | nil => exact List.Perm.refl _
  | cons x _ ih => rw [List.flatten_cons, List.flatten_cons]; exact ih.append_left x
  | swap x y l =>
    rw [List.flatten_cons, List.flatten_cons, List.flatten_cons, List.flatten_cons, ← List.append_assoc, ← List.append_assoc]
    exact List.perm_append_comm.append_right _
  | trans _ _ a b => exact a.trans b
/-- the heap holds the blocks, and their cells are apart and in A -/
def XB (D : va_G) (A : Nat → Prop) (bs : List va_W) (H : Heap) : Prop := va_P D vwCl bs.flatten H ∧ va_D A bs.flatten
theorem XB.perm {D : va_G} {A : Nat → Prop} {bs b1 b2 : List va_W} {H : Heap} (h : XB D A bs H) (hp : bs.Perm (b1 ++ b2)) : XB D A b1 H := by
  have hf := xw_pf hp
  rw [List.flatten_append] at hf
  have hn := ((hf.map Prod.fst).nodup_iff.mp (xw_nd h.2))
  rw [List.map_append] at hn
  refine ⟨xw_of fun q hq => xw_mem h.1 (hf.mem_iff.mpr (List.mem_append_left _ hq)), xw_d (List.nodup_append.mp hn).1 fun q hq => xw_dA h.2 (hf.mem_iff.mpr (List.mem_append_left _ hq))⟩
theorem xw_range {α : Type} (bs : List α) : (List.range bs.length).filterMap (fun i => bs[i]?) = bs := by
  have h1 : (List.range bs.length).map (fun i => bs[i]?) = bs.map some := by
    apply List.ext_getElem?
    intro i
    rw [List.getElem?_map, List.getElem?_map]
    by_cases h : i < bs.length
    · rw [List.getElem?_range h]
      simp [List.getElem?_eq_getElem h]
    · rw [List.getElem?_eq_none (by simpa using Nat.le_of_not_lt h), List.getElem?_eq_none (Nat.le_of_not_lt h)]
      rfl
  have h2 : (List.range bs.length).filterMap (fun i => bs[i]?) = ((List.range bs.length).map (fun i => bs[i]?)).filterMap id := by
    rw [List.filterMap_map]; rfl
  rw [h2, h1, List.filterMap_map]
  exact List.filterMap_some
theorem xw_idx {bs b1 b2 : List va_W} (i1 i2 : List Nat) (hp : (i1 ++ i2).isPerm (List.range bs.length) = true) (h1 : i1.filterMap (fun i => bs[i]?) = b1) (h2 : i2.filterMap (fun i => bs[i]?) = b2) : bs.Perm (b1 ++ b2) := by
  have h := (List.isPerm_iff.mp hp).filterMap (fun i => bs[i]?)
  rw [xw_range, List.filterMap_append, h1, h2] at h
  exact h.symm
/-- a block's place in the flat list, and what a change there is -/
theorem xw_at {α : Type} : ∀ (bs : List (List α)) (b i : Nat) (k : List α) (x : α), bs[b]? = some k → k[i]? = some x → ∃ q : Nat, bs.flatten[q]? = some x ∧ ∀ y, bs.flatten.set q y = (bs.set b (k.set i y)).flatten := by
  intro bs
  induction bs with
  | nil => intro b i k x h; simp at h
  | cons h0 t ih =>
    intro b i k x hb hi
    cases b with
    | zero =>
      rw [List.getElem?_cons_zero] at hb
      cases hb
      have hl := (List.getElem?_eq_some_iff.mp hi).1
      refine ⟨i, by rw [List.flatten_cons, List.getElem?_append_left hl]; exact hi, fun y => ?_⟩
      rw [List.set_cons_zero, List.flatten_cons, List.flatten_cons, List.set_append_left _ _ hl]
    | succ b =>
      rw [List.getElem?_cons_succ] at hb
      obtain ⟨q, h1, h2⟩ := ih b i k x hb hi
      refine ⟨h0.length + q, by rw [List.flatten_cons, List.getElem?_append_right (Nat.le_add_right _ _), Nat.add_sub_cancel_left]; exact h1, fun y => ?_⟩
      rw [List.set_cons_succ, List.flatten_cons, List.flatten_cons, List.set_append_right _ _ (Nat.le_add_right _ _), Nat.add_sub_cancel_left, h2]
abbrev xn_tys (cy : Nat → ClassId) : List (ClassId × FieldType) := [(cy 0, .byte), (cy 1, .int), (cy 2, .boolean), (cy 3, .array .int), (cy 4, .array .boolean)]
/-- what a method needs to know of the machine's tables, beside its words -/
def XK (D : va_G) (cy : Nat → ClassId) (U : State) : Prop := va_K D vwCl (xn_tys cy) U ∧ ∀ w, w ∈ xn_nw → va_Nw w U
theorem XK.warm {D : va_G} {cy : Nat → ClassId} {s U : State} (h : XK D cy s) (hW : s.WarmedH U.vm) : XK D cy U := ⟨va_K.moved hW.alike h.1, fun w hw => xn_nw_warm w hw hW (h.2 w hw)⟩
theorem XK.same {D : va_G} {cy : Nat → ClassId} {s U : State} (h : XK D cy s) (hv : s.vm = U.vm) : XK D cy U := ⟨va_K.moved (by rw [hv]; exact Vm.Alike.refl U.vm) h.1, fun w hw => va_Nw.same (xn_nw_tab w hw) hv (h.2 w hw)⟩
def XC (p : Program) (s : State) (m : MethodId) (args : Array Value) (c : Code) (cc : ByteArray) (Ts : List Cond) (own : String) (D : va_G) (cy : Nat → ClassId) (nL : Nat) (A : Nat → Prop) (H0 : Heap) : Prop :=
  p.tables.exec = Jvm.exec ∧ c.code = cc ∧ c.maxLocals = nL ∧ s.vm.findClass own = some m.cls ∧ (∀ w ∈ Ts, w.before args s = true) ∧ XK D cy s ∧ ∀ q, H0.size ≤ q → A q
def X (p : Program) (l : Launch) (e : Env) (R : Room) (s : State) (m : MethodId) (args : Array Value) (below : List Frame) (meth : Method) (c : Code) (D : va_G) (A : Nat → Prop) (H0 : Heap) (nL : Nat) (Q : State → Prop) (bs : List va_W) (cells slots : Nat) (lv : List (Nat × Value)) (pc : Nat) (st : List Value) : Prop :=
  ∀ (H : Heap) (locs : List Loc) (ls : Array Slot), XB D A bs H → va_S A H0 H locs → lv_has ls nL lv → W p l e R s m args below meth c H locs cells slots Q (F0 m pc ls st)
end XW
section XR
variable {p : Program} {l : Launch} {e : Env} {R : Room} {s : State} {m : MethodId} {args : Array Value} {below : List Frame} {meth : Method} {c : Code} {cc : ByteArray} {Ts : List Cond} {own : String} {D : va_G} {cy : Nat → ClassId} {A : Nat → Prop} {H0 : Heap} {nL : Nat} {Q : State → Prop} {bs : List va_W} {cells slots : Nat} {lv : List (Nat × Value)} {pc n : Nat} {st : List Value}
theorem xr_iadd (C : XC p s m args c cc Ts own D cy nL A H0) {a b : Int32} (d : decode cc pc = .ok (.iadd, 1)) (hn : pc + 1 = n) (k : X p l e R s m args below meth c D A H0 nL Q bs cells slots lv n (.int (a + b) :: st)) : X p l e R s m args below meth c D A H0 nL Q bs cells slots lv pc (.int b :: .int a :: st) := fun H locs ls hB hS hl => lv_iadd C.1 C.2.1 d (by rw [hn]; exact k H locs ls hB hS hl)
theorem xr_isub (C : XC p s m args c cc Ts own D cy nL A H0) {a b : Int32} (d : decode cc pc = .ok (.isub, 1)) (hn : pc + 1 = n) (k : X p l e R s m args below meth c D A H0 nL Q bs cells slots lv n (.int (a - b) :: st)) : X p l e R s m args below meth c D A H0 nL Q bs cells slots lv pc (.int b :: .int a :: st) := fun H locs ls hB hS hl => lv_isub C.1 C.2.1 d (by rw [hn]; exact k H locs ls hB hS hl)
theorem xr_imul (C : XC p s m args c cc Ts own D cy nL A H0) {a b : Int32} (d : decode cc pc = .ok (.imul, 1)) (hn : pc + 1 = n) (k : X p l e R s m args below meth c D A H0 nL Q bs cells slots lv n (.int (a * b) :: st)) : X p l e R s m args below meth c D A H0 nL Q bs cells slots lv pc (.int b :: .int a :: st) := fun H locs ls hB hS hl => lv_imul C.1 C.2.1 d (by rw [hn]; exact k H locs ls hB hS hl)
theorem xr_iand (C : XC p s m args c cc Ts own D cy nL A H0) {a b : Int32} (d : decode cc pc = .ok (.iand, 1)) (hn : pc + 1 = n) (k : X p l e R s m args below meth c D A H0 nL Q bs cells slots lv n (.int (a &&& b) :: st)) : X p l e R s m args below meth c D A H0 nL Q bs cells slots lv pc (.int b :: .int a :: st) := fun H locs ls hB hS hl => lv_iand C.1 C.2.1 d (by rw [hn]; exact k H locs ls hB hS hl)
theorem xr_ior (C : XC p s m args c cc Ts own D cy nL A H0) {a b : Int32} (d : decode cc pc = .ok (.ior, 1)) (hn : pc + 1 = n) (k : X p l e R s m args below meth c D A H0 nL Q bs cells slots lv n (.int (a ||| b) :: st)) : X p l e R s m args below meth c D A H0 nL Q bs cells slots lv pc (.int b :: .int a :: st) := fun H locs ls hB hS hl => lv_ior C.1 C.2.1 d (by rw [hn]; exact k H locs ls hB hS hl)
theorem xr_ixor (C : XC p s m args c cc Ts own D cy nL A H0) {a b : Int32} (d : decode cc pc = .ok (.ixor, 1)) (hn : pc + 1 = n) (k : X p l e R s m args below meth c D A H0 nL Q bs cells slots lv n (.int (a ^^^ b) :: st)) : X p l e R s m args below meth c D A H0 nL Q bs cells slots lv pc (.int b :: .int a :: st) := fun H locs ls hB hS hl => lv_ixor C.1 C.2.1 d (by rw [hn]; exact k H locs ls hB hS hl)
theorem xr_ishl (C : XC p s m args c cc Ts own D cy nL A H0) {a b : Int32} (d : decode cc pc = .ok (.ishl, 1)) (hn : pc + 1 = n) (k : X p l e R s m args below meth c D A H0 nL Q bs cells slots lv n (.int (a <<< (b &&& 31)) :: st)) : X p l e R s m args below meth c D A H0 nL Q bs cells slots lv pc (.int b :: .int a :: st) := fun H locs ls hB hS hl => lv_ishl C.1 C.2.1 d (by rw [hn]; exact k H locs ls hB hS hl)
theorem xr_ishr (C : XC p s m args c cc Ts own D cy nL A H0) {a b : Int32} (d : decode cc pc = .ok (.ishr, 1)) (hn : pc + 1 = n) (k : X p l e R s m args below meth c D A H0 nL Q bs cells slots lv n (.int (a >>> (b &&& 31)) :: st)) : X p l e R s m args below meth c D A H0 nL Q bs cells slots lv pc (.int b :: .int a :: st) := fun H locs ls hB hS hl => lv_ishr C.1 C.2.1 d (by rw [hn]; exact k H locs ls hB hS hl)
theorem xr_ladd (C : XC p s m args c cc Ts own D cy nL A H0) {a b : Int64} (d : decode cc pc = .ok (.ladd, 1)) (hn : pc + 1 = n) (k : X p l e R s m args below meth c D A H0 nL Q bs cells slots lv n (.long (a + b) :: st)) : X p l e R s m args below meth c D A H0 nL Q bs cells slots lv pc (.long b :: .long a :: st) := fun H locs ls hB hS hl => lv_ladd C.1 C.2.1 d (by rw [hn]; exact k H locs ls hB hS hl)
theorem xr_lsub (C : XC p s m args c cc Ts own D cy nL A H0) {a b : Int64} (d : decode cc pc = .ok (.lsub, 1)) (hn : pc + 1 = n) (k : X p l e R s m args below meth c D A H0 nL Q bs cells slots lv n (.long (a - b) :: st)) : X p l e R s m args below meth c D A H0 nL Q bs cells slots lv pc (.long b :: .long a :: st) := fun H locs ls hB hS hl => lv_lsub C.1 C.2.1 d (by rw [hn]; exact k H locs ls hB hS hl)
theorem xr_lmul (C : XC p s m args c cc Ts own D cy nL A H0) {a b : Int64} (d : decode cc pc = .ok (.lmul, 1)) (hn : pc + 1 = n) (k : X p l e R s m args below meth c D A H0 nL Q bs cells slots lv n (.long (a * b) :: st)) : X p l e R s m args below meth c D A H0 nL Q bs cells slots lv pc (.long b :: .long a :: st) := fun H locs ls hB hS hl => lv_lmul C.1 C.2.1 d (by rw [hn]; exact k H locs ls hB hS hl)
theorem xr_idiv (C : XC p s m args c cc Ts own D cy nL A H0) {a b : Int32} (d : decode cc pc = .ok (.idiv, 1)) (hz : ¬ b = 0) (hn : pc + 1 = n) (k : X p l e R s m args below meth c D A H0 nL Q bs cells slots lv n (.int (a / b) :: st)) : X p l e R s m args below meth c D A H0 nL Q bs cells slots lv pc (.int b :: .int a :: st) := fun H locs ls hB hS hl => lv_idiv C.1 C.2.1 d hz (by rw [hn]; exact k H locs ls hB hS hl)
theorem xr_irem (C : XC p s m args c cc Ts own D cy nL A H0) {a b : Int32} (d : decode cc pc = .ok (.irem, 1)) (hz : ¬ b = 0) (hn : pc + 1 = n) (k : X p l e R s m args below meth c D A H0 nL Q bs cells slots lv n (.int (a - a / b * b) :: st)) : X p l e R s m args below meth c D A H0 nL Q bs cells slots lv pc (.int b :: .int a :: st) := fun H locs ls hB hS hl => lv_irem C.1 C.2.1 d hz (by rw [hn]; exact k H locs ls hB hS hl)
theorem xr_iushr (C : XC p s m args c cc Ts own D cy nL A H0) {a b : Int32} (d : decode cc pc = .ok (.iushr, 1)) (hn : pc + 1 = n) (k : X p l e R s m args below meth c D A H0 nL Q bs cells slots lv n (.int ((a.toUInt32 >>> (b.toUInt32 &&& Int32.toUInt32 31)).toInt32) :: st)) : X p l e R s m args below meth c D A H0 nL Q bs cells slots lv pc (.int b :: .int a :: st) := fun H locs ls hB hS hl => lv_iushr C.1 C.2.1 d rfl (by rw [hn]; exact k H locs ls hB hS hl)
theorem xr_ineg (C : XC p s m args c cc Ts own D cy nL A H0) {a : Int32} (d : decode cc pc = .ok (.ineg, 1)) (hn : pc + 1 = n) (k : X p l e R s m args below meth c D A H0 nL Q bs cells slots lv n (.int (-a) :: st)) : X p l e R s m args below meth c D A H0 nL Q bs cells slots lv pc (.int a :: st) := fun H locs ls hB hS hl => lv_ineg C.1 C.2.1 d (by rw [hn]; exact k H locs ls hB hS hl)
theorem xr_i2l (C : XC p s m args c cc Ts own D cy nL A H0) {a : Int32} (d : decode cc pc = .ok (.i2l, 1)) (hn : pc + 1 = n) (k : X p l e R s m args below meth c D A H0 nL Q bs cells slots lv n (.long (a.toInt64) :: st)) : X p l e R s m args below meth c D A H0 nL Q bs cells slots lv pc (.int a :: st) := fun H locs ls hB hS hl => lv_i2l C.1 C.2.1 d rfl (by rw [hn]; exact k H locs ls hB hS hl)
theorem xr_i2c (C : XC p s m args c cc Ts own D cy nL A H0) {a : Int32} (d : decode cc pc = .ok (.i2c, 1)) (hn : pc + 1 = n) (k : X p l e R s m args below meth c D A H0 nL Q bs cells slots lv n (.int ((a.toUInt32 % 65536).toInt32) :: st)) : X p l e R s m args below meth c D A H0 nL Q bs cells slots lv pc (.int a :: st) := fun H locs ls hB hS hl => lv_i2c C.1 C.2.1 d rfl (by rw [hn]; exact k H locs ls hB hS hl)
theorem xr_iconst (C : XC p s m args c cc Ts own D cy nL A H0) {z : Int} {v : Int32} (d : decode cc pc = .ok (.iconst z, 1)) (hv : Int32.ofInt z = v) (hn : pc + 1 = n) (k : X p l e R s m args below meth c D A H0 nL Q bs cells slots lv n (.int v :: st)) : X p l e R s m args below meth c D A H0 nL Q bs cells slots lv pc st := fun H locs ls hB hS hl => lv_iconst C.1 C.2.1 d hv (by rw [hn]; exact k H locs ls hB hS hl)
theorem xr_bipush (C : XC p s m args c cc Ts own D cy nL A H0) {z : Int} {v : Int32} (d : decode cc pc = .ok (.bipush z, 2)) (hv : (Int8.ofInt z).toInt32 = v) (hn : pc + 2 = n) (k : X p l e R s m args below meth c D A H0 nL Q bs cells slots lv n (.int v :: st)) : X p l e R s m args below meth c D A H0 nL Q bs cells slots lv pc st := fun H locs ls hB hS hl => lv_bipush C.1 C.2.1 d hv (by rw [hn]; exact k H locs ls hB hS hl)
theorem xr_sipush (C : XC p s m args c cc Ts own D cy nL A H0) {z : Int} {v : Int32} (d : decode cc pc = .ok (.sipush z, 3)) (hv : (Int16.ofInt z).toInt32 = v) (hn : pc + 3 = n) (k : X p l e R s m args below meth c D A H0 nL Q bs cells slots lv n (.int v :: st)) : X p l e R s m args below meth c D A H0 nL Q bs cells slots lv pc st := fun H locs ls hB hS hl => lv_sipush C.1 C.2.1 d hv (by rw [hn]; exact k H locs ls hB hS hl)
theorem xr_lconst (C : XC p s m args c cc Ts own D cy nL A H0) {z : Fin 2} {v : Int64} (d : decode cc pc = .ok (.lconst z, 1)) (hv : Int64.ofNat (z : Nat) = v) (hn : pc + 1 = n) (k : X p l e R s m args below meth c D A H0 nL Q bs cells slots lv n (.long v :: st)) : X p l e R s m args below meth c D A H0 nL Q bs cells slots lv pc st := fun H locs ls hB hS hl => lv_lconst C.1 C.2.1 d hv (by rw [hn]; exact k H locs ls hB hS hl)
theorem xr_null (C : XC p s m args c cc Ts own D cy nL A H0) (d : decode cc pc = .ok (.aconst_null, 1)) (hn : pc + 1 = n) (k : X p l e R s m args below meth c D A H0 nL Q bs cells slots lv n (.null :: st)) : X p l e R s m args below meth c D A H0 nL Q bs cells slots lv pc st := fun H locs ls hB hS hl => lv_null C.1 C.2.1 d (by rw [hn]; exact k H locs ls hB hS hl)
theorem xr_ldc (C : XC p s m args c cc Ts own D cy nL A H0) {index : Nat} {v : Int32} (hc : (Jvm.Cond.constant own index v) ∈ Ts) (d : decode cc pc = .ok (.ldc index, 2)) (hn : pc + 2 = n) (k : X p l e R s m args below meth c D A H0 nL Q bs cells slots lv n (.int v :: st)) : X p l e R s m args below meth c D A H0 nL Q bs cells slots lv pc st := fun H locs ls hB hS hl => lv_ldc C.1 C.2.1 C.2.2.2.1 (C.2.2.2.2.1 _ hc) d (by rw [hn]; exact k H locs ls hB hS hl)
theorem xr_ldc2 (C : XC p s m args c cc Ts own D cy nL A H0) {index : Nat} {v : Int64} (hc : (Jvm.Cond.constantLong own index v) ∈ Ts) (d : decode cc pc = .ok (.ldc2_w index, 3)) (hn : pc + 3 = n) (k : X p l e R s m args below meth c D A H0 nL Q bs cells slots lv n (.long v :: st)) : X p l e R s m args below meth c D A H0 nL Q bs cells slots lv pc st := fun H locs ls hB hS hl => lv_ldc2 C.1 C.2.1 C.2.2.2.1 (C.2.2.2.2.1 _ hc) d (by rw [hn]; exact k H locs ls hB hS hl)
theorem xr_iload_n (C : XC p s m args c cc Ts own D cy nL A H0) {kk : Fin 4} {j : Nat} {x : Int32} (d : decode cc pc = .ok (.iload_n kk, 1)) (hv : lv[j]? = some ((kk : Nat), .int x)) (hn : pc + 1 = n) (k : X p l e R s m args below meth c D A H0 nL Q bs cells slots lv n (.int x :: st)) : X p l e R s m args below meth c D A H0 nL Q bs cells slots lv pc st := fun H locs ls hB hS hl => lv_iload_n C.1 C.2.1 d rfl (lv_at hl j hv) (by rw [hn]; exact k H locs ls hB hS hl)
theorem xr_iload (C : XC p s m args c cc Ts own D cy nL A H0) {i j : Nat} {x : Int32} (d : decode cc pc = .ok (.iload i, 2)) (hv : lv[j]? = some (i, .int x)) (hn : pc + 2 = n) (k : X p l e R s m args below meth c D A H0 nL Q bs cells slots lv n (.int x :: st)) : X p l e R s m args below meth c D A H0 nL Q bs cells slots lv pc st := fun H locs ls hB hS hl => lv_iload C.1 C.2.1 d (lv_at hl j hv) (by rw [hn]; exact k H locs ls hB hS hl)
theorem xr_istore_n (C : XC p s m args c cc Ts own D cy nL A H0) {kk : Fin 4} {x : Int32} (lv' : List (Nat × Value)) (d : decode cc pc = .ok (.istore_n kk, 1)) (hi : (kk : Nat) < nL) (hv : ((kk : Nat), Value.int x) :: lv.filter (fun q => !(q.1 == (kk : Nat)) && !(q.1 + 1 == (kk : Nat) && q.2.category == 2)) = lv') (hn : pc + 1 = n) (k : X p l e R s m args below meth c D A H0 nL Q bs cells slots lv' n st) : X p l e R s m args below meth c D A H0 nL Q bs cells slots lv pc (.int x :: st) := fun H locs ls hB hS hl => lv_istore_n C.1 C.2.1 d rfl hl hi hv (fun ls' hl' => by rw [hn]; exact k H locs ls' hB hS hl')
theorem xr_istore (C : XC p s m args c cc Ts own D cy nL A H0) {i : Nat} {x : Int32} (lv' : List (Nat × Value)) (d : decode cc pc = .ok (.istore i, 2)) (hi : i < nL) (hv : (i, Value.int x) :: lv.filter (fun q => !(q.1 == i) && !(q.1 + 1 == i && q.2.category == 2)) = lv') (hn : pc + 2 = n) (k : X p l e R s m args below meth c D A H0 nL Q bs cells slots lv' n st) : X p l e R s m args below meth c D A H0 nL Q bs cells slots lv pc (.int x :: st) := fun H locs ls hB hS hl => lv_istore C.1 C.2.1 d hl hi hv (fun ls' hl' => by rw [hn]; exact k H locs ls' hB hS hl')
theorem xr_lload_n (C : XC p s m args c cc Ts own D cy nL A H0) {kk : Fin 4} {j : Nat} {x : Int64} (d : decode cc pc = .ok (.lload_n kk, 1)) (hv : lv[j]? = some ((kk : Nat), .long x)) (hn : pc + 1 = n) (k : X p l e R s m args below meth c D A H0 nL Q bs cells slots lv n (.long x :: st)) : X p l e R s m args below meth c D A H0 nL Q bs cells slots lv pc st := fun H locs ls hB hS hl => lv_lload_n C.1 C.2.1 d rfl (lv_at hl j hv) (by rw [hn]; exact k H locs ls hB hS hl)
theorem xr_lload (C : XC p s m args c cc Ts own D cy nL A H0) {i j : Nat} {x : Int64} (d : decode cc pc = .ok (.lload i, 2)) (hv : lv[j]? = some (i, .long x)) (hn : pc + 2 = n) (k : X p l e R s m args below meth c D A H0 nL Q bs cells slots lv n (.long x :: st)) : X p l e R s m args below meth c D A H0 nL Q bs cells slots lv pc st := fun H locs ls hB hS hl => lv_lload C.1 C.2.1 d (lv_at hl j hv) (by rw [hn]; exact k H locs ls hB hS hl)
theorem xr_lstore_n (C : XC p s m args c cc Ts own D cy nL A H0) {kk : Fin 4} {x : Int64} (lv' : List (Nat × Value)) (d : decode cc pc = .ok (.lstore_n kk, 1)) (hi : (kk : Nat) + 1 < nL) (hv : ((kk : Nat), Value.long x) :: lv.filter (fun q => !(q.1 == (kk : Nat)) && (!(q.1 == (kk : Nat) + 1) && !(q.1 + 1 == (kk : Nat) && q.2.category == 2))) = lv') (hn : pc + 1 = n) (k : X p l e R s m args below meth c D A H0 nL Q bs cells slots lv' n st) : X p l e R s m args below meth c D A H0 nL Q bs cells slots lv pc (.long x :: st) := fun H locs ls hB hS hl => lv_lstore_n C.1 C.2.1 d rfl hl hi hv (fun ls' hl' => by rw [hn]; exact k H locs ls' hB hS hl')
theorem xr_lstore (C : XC p s m args c cc Ts own D cy nL A H0) {i : Nat} {x : Int64} (lv' : List (Nat × Value)) (d : decode cc pc = .ok (.lstore i, 2)) (hi : i + 1 < nL) (hv : (i, Value.long x) :: lv.filter (fun q => !(q.1 == i) && (!(q.1 == i + 1) && !(q.1 + 1 == i && q.2.category == 2))) = lv') (hn : pc + 2 = n) (k : X p l e R s m args below meth c D A H0 nL Q bs cells slots lv' n st) : X p l e R s m args below meth c D A H0 nL Q bs cells slots lv pc (.long x :: st) := fun H locs ls hB hS hl => lv_lstore C.1 C.2.1 d hl hi hv (fun ls' hl' => by rw [hn]; exact k H locs ls' hB hS hl')
theorem xr_aload_n (C : XC p s m args c cc Ts own D cy nL A H0) {kk : Fin 4} {j : Nat} {x : Nat} (d : decode cc pc = .ok (.aload_n kk, 1)) (hv : lv[j]? = some ((kk : Nat), .ref x)) (hn : pc + 1 = n) (k : X p l e R s m args below meth c D A H0 nL Q bs cells slots lv n (.ref x :: st)) : X p l e R s m args below meth c D A H0 nL Q bs cells slots lv pc st := fun H locs ls hB hS hl => lv_aload_n C.1 C.2.1 d rfl (lv_at hl j hv) (by rw [hn]; exact k H locs ls hB hS hl)
theorem xr_aload (C : XC p s m args c cc Ts own D cy nL A H0) {i j : Nat} {x : Nat} (d : decode cc pc = .ok (.aload i, 2)) (hv : lv[j]? = some (i, .ref x)) (hn : pc + 2 = n) (k : X p l e R s m args below meth c D A H0 nL Q bs cells slots lv n (.ref x :: st)) : X p l e R s m args below meth c D A H0 nL Q bs cells slots lv pc st := fun H locs ls hB hS hl => lv_aload C.1 C.2.1 d (lv_at hl j hv) (by rw [hn]; exact k H locs ls hB hS hl)
theorem xr_astore_n (C : XC p s m args c cc Ts own D cy nL A H0) {kk : Fin 4} {x : Nat} (lv' : List (Nat × Value)) (d : decode cc pc = .ok (.astore_n kk, 1)) (hi : (kk : Nat) < nL) (hv : ((kk : Nat), Value.ref x) :: lv.filter (fun q => !(q.1 == (kk : Nat)) && !(q.1 + 1 == (kk : Nat) && q.2.category == 2)) = lv') (hn : pc + 1 = n) (k : X p l e R s m args below meth c D A H0 nL Q bs cells slots lv' n st) : X p l e R s m args below meth c D A H0 nL Q bs cells slots lv pc (.ref x :: st) := fun H locs ls hB hS hl => lv_astore_n C.1 C.2.1 d rfl hl hi hv (fun ls' hl' => by rw [hn]; exact k H locs ls' hB hS hl')
theorem xr_astore (C : XC p s m args c cc Ts own D cy nL A H0) {i : Nat} {x : Nat} (lv' : List (Nat × Value)) (d : decode cc pc = .ok (.astore i, 2)) (hi : i < nL) (hv : (i, Value.ref x) :: lv.filter (fun q => !(q.1 == i) && !(q.1 + 1 == i && q.2.category == 2)) = lv') (hn : pc + 2 = n) (k : X p l e R s m args below meth c D A H0 nL Q bs cells slots lv' n st) : X p l e R s m args below meth c D A H0 nL Q bs cells slots lv pc (.ref x :: st) := fun H locs ls hB hS hl => lv_astore C.1 C.2.1 d hl hi hv (fun ls' hl' => by rw [hn]; exact k H locs ls' hB hS hl')
theorem xr_iinc (C : XC p s m args c cc Ts own D cy nL A H0) {i j : Nat} {z : Int} {x v : Int32} (lv' : List (Nat × Value)) (d : decode cc pc = .ok (.iinc i z, 3)) (hj : lv[j]? = some (i, .int x)) (hx : x + Int32.ofInt z = v) (hi : i < nL) (hv : (i, Value.int v) :: lv.filter (fun q => !(q.1 == i) && !(q.1 + 1 == i && q.2.category == 2)) = lv') (hn : pc + 3 = n) (k : X p l e R s m args below meth c D A H0 nL Q bs cells slots lv' n st) : X p l e R s m args below meth c D A H0 nL Q bs cells slots lv pc st := fun H locs ls hB hS hl => lv_iinc C.1 C.2.1 d hl hj hx hi hv (fun ls' hl' => by rw [hn]; exact k H locs ls' hB hS hl')
theorem xr_dup (C : XC p s m args c cc Ts own D cy nL A H0) {va : Value} (d : decode cc pc = .ok (.dup, 1)) (hc : va.category = 1) (hn : pc + 1 = n) (k : X p l e R s m args below meth c D A H0 nL Q bs cells slots lv n (va :: va :: st)) : X p l e R s m args below meth c D A H0 nL Q bs cells slots lv pc (va :: st) := fun H locs ls hB hS hl => lv_dup C.1 C.2.1 d hc (by rw [hn]; exact k H locs ls hB hS hl)
theorem xr_pop (C : XC p s m args c cc Ts own D cy nL A H0) {va : Value} (d : decode cc pc = .ok (.pop, 1)) (hc : va.category = 1) (hn : pc + 1 = n) (k : X p l e R s m args below meth c D A H0 nL Q bs cells slots lv n st) : X p l e R s m args below meth c D A H0 nL Q bs cells slots lv pc (va :: st) := fun H locs ls hB hS hl => lv_pop C.1 C.2.1 d hc (by rw [hn]; exact k H locs ls hB hS hl)
theorem xr_dup_x1 (C : XC p s m args c cc Ts own D cy nL A H0) {va vb : Value} (d : decode cc pc = .ok (.dup_x1, 1)) (hc : va.category = 1) (hc2 : vb.category = 1) (hn : pc + 1 = n) (k : X p l e R s m args below meth c D A H0 nL Q bs cells slots lv n (va :: vb :: va :: st)) : X p l e R s m args below meth c D A H0 nL Q bs cells slots lv pc (va :: vb :: st) := fun H locs ls hB hS hl => lv_dup_x1 C.1 C.2.1 d hc hc2 (by rw [hn]; exact k H locs ls hB hS hl)
theorem xr_dup2 (C : XC p s m args c cc Ts own D cy nL A H0) {va vb : Value} (d : decode cc pc = .ok (.dup2, 1)) (hc : va.category = 1) (hc2 : vb.category = 1) (hn : pc + 1 = n) (k : X p l e R s m args below meth c D A H0 nL Q bs cells slots lv n (va :: vb :: va :: vb :: st)) : X p l e R s m args below meth c D A H0 nL Q bs cells slots lv pc (va :: vb :: st) := fun H locs ls hB hS hl => lv_dup2_11 C.1 C.2.1 d hc hc2 (by rw [hn]; exact k H locs ls hB hS hl)
theorem xr_if_eq (C : XC p s m args c cc Ts own D cy nL A H0) {x : Int32} {off : Int} {tgt : Nat} (d : decode cc pc = .ok (.ifCond .eq off, 3)) (ht : (pc : Int) + off = (tgt : Int)) (hn : pc + 3 = n) (kt : x = 0 → X p l e R s m args below meth c D A H0 nL Q bs cells slots lv tgt st) (kf : ¬ (x = 0) → X p l e R s m args below meth c D A H0 nL Q bs cells slots lv n st) : X p l e R s m args below meth c D A H0 nL Q bs cells slots lv pc (.int x :: st) := fun H locs ls hB hS hl => lv_if_eq C.1 C.2.1 d ht (fun h => kt h H locs ls hB hS hl) (fun h => by rw [hn]; exact kf h H locs ls hB hS hl)
theorem xr_icmp_eq (C : XC p s m args c cc Ts own D cy nL A H0) {x y : Int32} {off : Int} {tgt : Nat} (d : decode cc pc = .ok (.if_icmp .eq off, 3)) (ht : (pc : Int) + off = (tgt : Int)) (hn : pc + 3 = n) (kt : x = y → X p l e R s m args below meth c D A H0 nL Q bs cells slots lv tgt st) (kf : ¬ (x = y) → X p l e R s m args below meth c D A H0 nL Q bs cells slots lv n st) : X p l e R s m args below meth c D A H0 nL Q bs cells slots lv pc (.int y :: .int x :: st) := fun H locs ls hB hS hl => lv_icmp_eq C.1 C.2.1 d ht (fun h => kt h H locs ls hB hS hl) (fun h => by rw [hn]; exact kf h H locs ls hB hS hl)
theorem xr_if_ne (C : XC p s m args c cc Ts own D cy nL A H0) {x : Int32} {off : Int} {tgt : Nat} (d : decode cc pc = .ok (.ifCond .ne off, 3)) (ht : (pc : Int) + off = (tgt : Int)) (hn : pc + 3 = n) (kt : x ≠ 0 → X p l e R s m args below meth c D A H0 nL Q bs cells slots lv tgt st) (kf : ¬ (x ≠ 0) → X p l e R s m args below meth c D A H0 nL Q bs cells slots lv n st) : X p l e R s m args below meth c D A H0 nL Q bs cells slots lv pc (.int x :: st) := fun H locs ls hB hS hl => lv_if_ne C.1 C.2.1 d ht (fun h => kt h H locs ls hB hS hl) (fun h => by rw [hn]; exact kf h H locs ls hB hS hl)
theorem xr_icmp_ne (C : XC p s m args c cc Ts own D cy nL A H0) {x y : Int32} {off : Int} {tgt : Nat} (d : decode cc pc = .ok (.if_icmp .ne off, 3)) (ht : (pc : Int) + off = (tgt : Int)) (hn : pc + 3 = n) (kt : x ≠ y → X p l e R s m args below meth c D A H0 nL Q bs cells slots lv tgt st) (kf : ¬ (x ≠ y) → X p l e R s m args below meth c D A H0 nL Q bs cells slots lv n st) : X p l e R s m args below meth c D A H0 nL Q bs cells slots lv pc (.int y :: .int x :: st) := fun H locs ls hB hS hl => lv_icmp_ne C.1 C.2.1 d ht (fun h => kt h H locs ls hB hS hl) (fun h => by rw [hn]; exact kf h H locs ls hB hS hl)
theorem xr_if_lt (C : XC p s m args c cc Ts own D cy nL A H0) {x : Int32} {off : Int} {tgt : Nat} (d : decode cc pc = .ok (.ifCond .lt off, 3)) (ht : (pc : Int) + off = (tgt : Int)) (hn : pc + 3 = n) (kt : x < 0 → X p l e R s m args below meth c D A H0 nL Q bs cells slots lv tgt st) (kf : ¬ (x < 0) → X p l e R s m args below meth c D A H0 nL Q bs cells slots lv n st) : X p l e R s m args below meth c D A H0 nL Q bs cells slots lv pc (.int x :: st) := fun H locs ls hB hS hl => lv_if_lt C.1 C.2.1 d ht (fun h => kt h H locs ls hB hS hl) (fun h => by rw [hn]; exact kf h H locs ls hB hS hl)
theorem xr_icmp_lt (C : XC p s m args c cc Ts own D cy nL A H0) {x y : Int32} {off : Int} {tgt : Nat} (d : decode cc pc = .ok (.if_icmp .lt off, 3)) (ht : (pc : Int) + off = (tgt : Int)) (hn : pc + 3 = n) (kt : x < y → X p l e R s m args below meth c D A H0 nL Q bs cells slots lv tgt st) (kf : ¬ (x < y) → X p l e R s m args below meth c D A H0 nL Q bs cells slots lv n st) : X p l e R s m args below meth c D A H0 nL Q bs cells slots lv pc (.int y :: .int x :: st) := fun H locs ls hB hS hl => lv_icmp_lt C.1 C.2.1 d ht (fun h => kt h H locs ls hB hS hl) (fun h => by rw [hn]; exact kf h H locs ls hB hS hl)
theorem xr_if_ge (C : XC p s m args c cc Ts own D cy nL A H0) {x : Int32} {off : Int} {tgt : Nat} (d : decode cc pc = .ok (.ifCond .ge off, 3)) (ht : (pc : Int) + off = (tgt : Int)) (hn : pc + 3 = n) (kt : 0 ≤ x → X p l e R s m args below meth c D A H0 nL Q bs cells slots lv tgt st) (kf : ¬ (0 ≤ x) → X p l e R s m args below meth c D A H0 nL Q bs cells slots lv n st) : X p l e R s m args below meth c D A H0 nL Q bs cells slots lv pc (.int x :: st) := fun H locs ls hB hS hl => lv_if_ge C.1 C.2.1 d ht (fun h => kt h H locs ls hB hS hl) (fun h => by rw [hn]; exact kf h H locs ls hB hS hl)
theorem xr_icmp_ge (C : XC p s m args c cc Ts own D cy nL A H0) {x y : Int32} {off : Int} {tgt : Nat} (d : decode cc pc = .ok (.if_icmp .ge off, 3)) (ht : (pc : Int) + off = (tgt : Int)) (hn : pc + 3 = n) (kt : y ≤ x → X p l e R s m args below meth c D A H0 nL Q bs cells slots lv tgt st) (kf : ¬ (y ≤ x) → X p l e R s m args below meth c D A H0 nL Q bs cells slots lv n st) : X p l e R s m args below meth c D A H0 nL Q bs cells slots lv pc (.int y :: .int x :: st) := fun H locs ls hB hS hl => lv_icmp_ge C.1 C.2.1 d ht (fun h => kt h H locs ls hB hS hl) (fun h => by rw [hn]; exact kf h H locs ls hB hS hl)
theorem xr_if_gt (C : XC p s m args c cc Ts own D cy nL A H0) {x : Int32} {off : Int} {tgt : Nat} (d : decode cc pc = .ok (.ifCond .gt off, 3)) (ht : (pc : Int) + off = (tgt : Int)) (hn : pc + 3 = n) (kt : 0 < x → X p l e R s m args below meth c D A H0 nL Q bs cells slots lv tgt st) (kf : ¬ (0 < x) → X p l e R s m args below meth c D A H0 nL Q bs cells slots lv n st) : X p l e R s m args below meth c D A H0 nL Q bs cells slots lv pc (.int x :: st) := fun H locs ls hB hS hl => lv_if_gt C.1 C.2.1 d ht (fun h => kt h H locs ls hB hS hl) (fun h => by rw [hn]; exact kf h H locs ls hB hS hl)
theorem xr_icmp_gt (C : XC p s m args c cc Ts own D cy nL A H0) {x y : Int32} {off : Int} {tgt : Nat} (d : decode cc pc = .ok (.if_icmp .gt off, 3)) (ht : (pc : Int) + off = (tgt : Int)) (hn : pc + 3 = n) (kt : y < x → X p l e R s m args below meth c D A H0 nL Q bs cells slots lv tgt st) (kf : ¬ (y < x) → X p l e R s m args below meth c D A H0 nL Q bs cells slots lv n st) : X p l e R s m args below meth c D A H0 nL Q bs cells slots lv pc (.int y :: .int x :: st) := fun H locs ls hB hS hl => lv_icmp_gt C.1 C.2.1 d ht (fun h => kt h H locs ls hB hS hl) (fun h => by rw [hn]; exact kf h H locs ls hB hS hl)
theorem xr_if_le (C : XC p s m args c cc Ts own D cy nL A H0) {x : Int32} {off : Int} {tgt : Nat} (d : decode cc pc = .ok (.ifCond .le off, 3)) (ht : (pc : Int) + off = (tgt : Int)) (hn : pc + 3 = n) (kt : x ≤ 0 → X p l e R s m args below meth c D A H0 nL Q bs cells slots lv tgt st) (kf : ¬ (x ≤ 0) → X p l e R s m args below meth c D A H0 nL Q bs cells slots lv n st) : X p l e R s m args below meth c D A H0 nL Q bs cells slots lv pc (.int x :: st) := fun H locs ls hB hS hl => lv_if_le C.1 C.2.1 d ht (fun h => kt h H locs ls hB hS hl) (fun h => by rw [hn]; exact kf h H locs ls hB hS hl)
theorem xr_icmp_le (C : XC p s m args c cc Ts own D cy nL A H0) {x y : Int32} {off : Int} {tgt : Nat} (d : decode cc pc = .ok (.if_icmp .le off, 3)) (ht : (pc : Int) + off = (tgt : Int)) (hn : pc + 3 = n) (kt : x ≤ y → X p l e R s m args below meth c D A H0 nL Q bs cells slots lv tgt st) (kf : ¬ (x ≤ y) → X p l e R s m args below meth c D A H0 nL Q bs cells slots lv n st) : X p l e R s m args below meth c D A H0 nL Q bs cells slots lv pc (.int y :: .int x :: st) := fun H locs ls hB hS hl => lv_icmp_le C.1 C.2.1 d ht (fun h => kt h H locs ls hB hS hl) (fun h => by rw [hn]; exact kf h H locs ls hB hS hl)
theorem xr_goto (C : XC p s m args c cc Ts own D cy nL A H0) {off : Int} {tgt : Nat} (d : decode cc pc = .ok (.goto off, 3)) (ht : (pc : Int) + off = (tgt : Int)) (k : X p l e R s m args below meth c D A H0 nL Q bs cells slots lv tgt st) : X p l e R s m args below meth c D A H0 nL Q bs cells slots lv pc st := fun H locs ls hB hS hl => lv_goto C.1 C.2.1 d ht (k H locs ls hB hS hl)
theorem xr_tableOut (C : XC p s m args c cc Ts own D cy nL A H0) {dflt lo hi : Int} {offs : Array Int} {len : Nat} {x : Int32} {tgt : Nat} (d : decode cc pc = .ok (.tableswitch dflt lo hi offs, len)) (h : x.toInt < lo ∨ hi < x.toInt) (ht : (pc : Int) + dflt = (tgt : Int)) (k : X p l e R s m args below meth c D A H0 nL Q bs cells slots lv tgt st) : X p l e R s m args below meth c D A H0 nL Q bs cells slots lv pc (.int x :: st) := fun H locs ls hB hS hl => lv_tableOut C.1 C.2.1 d h ht (k H locs ls hB hS hl)
theorem xr_tableIn (C : XC p s m args c cc Ts own D cy nL A H0) {dflt lo hi off : Int} {offs : Array Int} {len : Nat} {x : Int32} {tgt : Nat} (d : decode cc pc = .ok (.tableswitch dflt lo hi offs, len)) (h1 : ¬ x.toInt < lo) (h2 : ¬ hi < x.toInt) (ho : offs[(x.toInt - lo).toNat]? = some off) (ht : (pc : Int) + off = (tgt : Int)) (k : X p l e R s m args below meth c D A H0 nL Q bs cells slots lv tgt st) : X p l e R s m args below meth c D A H0 nL Q bs cells slots lv pc (.int x :: st) := fun H locs ls hB hS hl => lv_tableIn C.1 C.2.1 d h1 h2 ho ht (k H locs ls hB hS hl)
theorem xr_get (C : XC p s m args c cc Ts own D cy nL A H0) {CC ref : String} {TT : u_T} {N ci index a : Nat} {fs : List Value} {v : Value} (b : Nat) (hb : bs[b]? = some [(a, .inr (ci, fs))]) (hc : vwCl[ci]? = some (CC, TT, N)) (k0 : Nat) (hk : k0 < N) (hin : ∀ w ∈ u_ws CC TT N, w ∈ Ts) (hlink : Cond.fieldLink own index ref (TT k0).2.1 (TT k0).2.2.1 ∈ Ts) (hr : (TT k0).1 = ref) (hv : fs[k0]? = some v) (d : decode cc pc = .ok (.getfield index, 3)) (hn : pc + 3 = n) (k : X p l e R s m args below meth c D A H0 nL Q bs cells slots lv n (v :: st)) : X p l e R s m args below meth c D A H0 nL Q bs cells slots lv pc (.ref a :: st) := by
  intro H locs ls hB hS hl
  obtain ⟨q0, h1, -⟩ := xw_at bs b 0 _ _ hb rfl
  exact va_get (D := D) C.1 C.2.1 C.2.2.2.2.1 hin C.2.2.2.1 C.2.2.2.2.2.1.1 hB.1 q0 h1 hc k0 hk (C.2.2.2.2.1 _ hlink) (fun x h => by rw [← hr]; exact h) hv d (by rw [hn]; exact k H locs ls hB hS hl)
theorem xr_getN (C : XC p s m args c cc Ts own D cy nL A H0) {CC ref : String} {TT : u_T} {N ci index a : Nat} {fs : List Value} {v : Value} (b : Nat) (hb : bs[b]? = some [(a, .inr (ci, fs))]) (hc : vwCl[ci]? = some (CC, TT, N)) (k0 : Nat) (hk : k0 < N) (hin : ∀ w ∈ u_ws CC TT N, w ∈ Ts) (host : String) (hlink : Cond.fieldLinkNest own index ref (TT k0).2.1 (TT k0).2.2.1 host ∈ xn_nw) (hr : (TT k0).1 = ref) (hv : fs[k0]? = some v) (d : decode cc pc = .ok (.getfield index, 3)) (hn : pc + 3 = n) (k : X p l e R s m args below meth c D A H0 nL Q bs cells slots lv n (v :: st)) : X p l e R s m args below meth c D A H0 nL Q bs cells slots lv pc (.ref a :: st) := by
  intro H locs ls hB hS hl
  obtain ⟨q0, h1, -⟩ := xw_at bs b 0 _ _ hb rfl
  exact va_getN (D := D) C.1 C.2.1 C.2.2.2.2.1 hin C.2.2.2.1 C.2.2.2.2.2.1.1 hB.1 q0 h1 hc k0 hk (va_Nw.use rfl (C.2.2.2.2.2.1.2 _ hlink)) (fun x h => by rw [← hr]; exact h) hv d (by rw [hn]; exact k H locs ls hB hS hl)
theorem xr_put (C : XC p s m args c cc Ts own D cy nL A H0) {CC ref : String} {TT : u_T} {N ci index a : Nat} {fs : List Value} {v : Value} (b : Nat) (hb : bs[b]? = some [(a, .inr (ci, fs))]) (hc : vwCl[ci]? = some (CC, TT, N)) (k0 : Nat) (hk : k0 < N) (hin : ∀ w ∈ u_ws CC TT N, w ∈ Ts) (ty0 : Nat → FieldType) (hty : ∀ k, k < N → parseFieldDescriptor (TT k).2.2.1 = some (ty0 k)) (hnm : ∀ a, a < N → ∀ b, b < N → a ≠ b → (TT a).2.1 ≠ (TT b).2.1) (hlink : Cond.fieldLink own index ref (TT k0).2.1 (TT k0).2.2.1 ∈ Ts) (hr : (TT k0).1 = ref) (hfin : (TT k0).2.2.2 = false) (hfit : fits (ty0 k0) v = true) (hnr : narrow (ty0 k0) v = v) (hlen : k0 < fs.length) (bs' : List va_W) (hbs : bs.set b [(a, .inr (ci, fs.set k0 v))] = bs') (hn : pc + 3 = n) (d : decode cc pc = .ok (.putfield index, 3)) (k : X p l e R s m args below meth c D A H0 nL Q bs' cells slots lv n st) : X p l e R s m args below meth c D A H0 nL Q bs cells slots lv pc (v :: .ref a :: st) := by
  intro H locs ls hB hS hl
  obtain ⟨q0, h1, h2⟩ := xw_at bs b 0 _ _ hb rfl
  refine va_put (D := D) C.1 C.2.1 C.2.2.2.2.1 hin ty0 hty hnm C.2.2.2.1 C.2.2.2.2.2.1.1 hB.1 hB.2 hS q0 h1 hc k0 hk (C.2.2.2.2.1 _ hlink) (fun x h => by rw [← hr]; exact h) hfin (hty k0 hk) hnr hfit hlen d (fun H1 locs1 hP1 hD1 hS1 => ?_)
  rw [hn]
  have e := h2 (a, .inr (ci, fs.set k0 v))
  rw [List.set_cons_zero, hbs] at e
  rw [e] at hP1 hD1
  exact k H1 locs1 ls ⟨hP1, hD1⟩ hS1 hl
theorem xr_putN (C : XC p s m args c cc Ts own D cy nL A H0) {CC ref : String} {TT : u_T} {N ci index a : Nat} {fs : List Value} {v : Value} (b : Nat) (hb : bs[b]? = some [(a, .inr (ci, fs))]) (hc : vwCl[ci]? = some (CC, TT, N)) (k0 : Nat) (hk : k0 < N) (hin : ∀ w ∈ u_ws CC TT N, w ∈ Ts) (ty0 : Nat → FieldType) (hty : ∀ k, k < N → parseFieldDescriptor (TT k).2.2.1 = some (ty0 k)) (hnm : ∀ a, a < N → ∀ b, b < N → a ≠ b → (TT a).2.1 ≠ (TT b).2.1) (host : String) (hlink : Cond.fieldLinkNest own index ref (TT k0).2.1 (TT k0).2.2.1 host ∈ xn_nw) (hr : (TT k0).1 = ref) (hfin : (TT k0).2.2.2 = false) (hfit : fits (ty0 k0) v = true) (hnr : narrow (ty0 k0) v = v) (hlen : k0 < fs.length) (bs' : List va_W) (hbs : bs.set b [(a, .inr (ci, fs.set k0 v))] = bs') (hn : pc + 3 = n) (d : decode cc pc = .ok (.putfield index, 3)) (k : X p l e R s m args below meth c D A H0 nL Q bs' cells slots lv n st) : X p l e R s m args below meth c D A H0 nL Q bs cells slots lv pc (v :: .ref a :: st) := by
  intro H locs ls hB hS hl
  obtain ⟨q0, h1, h2⟩ := xw_at bs b 0 _ _ hb rfl
  refine va_putN (D := D) C.1 C.2.1 C.2.2.2.2.1 hin ty0 hty hnm C.2.2.2.1 C.2.2.2.2.2.1.1 hB.1 hB.2 hS q0 h1 hc k0 hk (va_Nw.use rfl (C.2.2.2.2.2.1.2 _ hlink)) (fun x h => by rw [← hr]; exact h) hfin (hty k0 hk) hnr hfit hlen d (fun H1 locs1 hP1 hD1 hS1 => ?_)
  rw [hn]
  have e := h2 (a, .inr (ci, fs.set k0 v))
  rw [List.set_cons_zero, hbs] at e
  rw [e] at hP1 hD1
  exact k H1 locs1 ls ⟨hP1, hD1⟩ hS1 hl
theorem xr_putF (C : XC p s m args c cc Ts own D cy nL A H0) {CC ref : String} {TT : u_T} {N ci index a : Nat} {fs : List Value} {v : Value} (b : Nat) (hb : bs[b]? = some [(a, .inr (ci, fs))]) (hc : vwCl[ci]? = some (CC, TT, N)) (k0 : Nat) (hk : k0 < N) (hin : ∀ w ∈ u_ws CC TT N, w ∈ Ts) (ty0 : Nat → FieldType) (hty : ∀ k, k < N → parseFieldDescriptor (TT k).2.2.1 = some (ty0 k)) (hnm : ∀ a, a < N → ∀ b, b < N → a ≠ b → (TT a).2.1 ≠ (TT b).2.1) (hlink : Cond.fieldLink own index ref (TT k0).2.1 (TT k0).2.2.1 ∈ Ts) (hr : (TT k0).1 = ref) (hfin : (TT k0).2.2.2 = true) (hin2 : meth.name = "<init>") (hdecl : (TT k0).1 = own) (hfit : fits (ty0 k0) v = true) (hnr : narrow (ty0 k0) v = v) (hlen : k0 < fs.length) (bs' : List va_W) (hbs : bs.set b [(a, .inr (ci, fs.set k0 v))] = bs') (hn : pc + 3 = n) (d : decode cc pc = .ok (.putfield index, 3)) (k : X p l e R s m args below meth c D A H0 nL Q bs' cells slots lv n st) : X p l e R s m args below meth c D A H0 nL Q bs cells slots lv pc (v :: .ref a :: st) := by
  intro H locs ls hB hS hl
  obtain ⟨q0, h1, h2⟩ := xw_at bs b 0 _ _ hb rfl
  refine va_putF (D := D) C.1 C.2.1 C.2.2.2.2.1 hin ty0 hty hnm C.2.2.2.1 C.2.2.2.2.2.1.1 hB.1 hB.2 hS q0 h1 hc k0 hk (C.2.2.2.2.1 _ hlink) (fun x h => by rw [← hr]; exact h) hfin hin2 hdecl (hty k0 hk) hnr hfit hlen d (fun H1 locs1 hP1 hD1 hS1 => ?_)
  rw [hn]
  have e := h2 (a, .inr (ci, fs.set k0 v))
  rw [List.set_cons_zero, hbs] at e
  rw [e] at hP1 hD1
  exact k H1 locs1 ls ⟨hP1, hD1⟩ hS1 hl
theorem xr_iald (C : XC p s m args c cc Ts own D cy nL A H0) {a N : Nat} {cA : ClassId} {f : Nat → Int32} {x : Int32} (b i : Nat) {kb : va_W} (hb : bs[b]? = some kb) (hi : kb[i]? = some (a, .inl (cA, N, .inl f))) (hcy : cy 1 = cA) (hin : vp_in x N) (d : decode cc pc = .ok (.iaload, 1)) (hn : pc + 1 = n) (k : X p l e R s m args below meth c D A H0 nL Q bs cells slots lv n (.int (f x.toNatClampNeg) :: st)) : X p l e R s m args below meth c D A H0 nL Q bs cells slots lv pc (.int x :: .ref a :: st) := by
  intro H locs ls hB hS hl
  obtain ⟨q0, h1, -⟩ := xw_at bs b i _ _ hb hi
  exact va_iald (D := D) C.1 C.2.1 C.2.2.2.2.2.1.1 hB.1 q0 1 h1 (by rw [← hcy]; rfl) hin d (by rw [hn]; exact k H locs ls hB hS hl)
theorem xr_zald (C : XC p s m args c cc Ts own D cy nL A H0) {a N : Nat} {cA : ClassId} {f : Nat → Int32} {x : Int32} (b i : Nat) {kb : va_W} (hb : bs[b]? = some kb) (hi : kb[i]? = some (a, .inl (cA, N, .inl f))) (hcy : cy 2 = cA) (hin : vp_in x N) (d : decode cc pc = .ok (.baload, 1)) (hn : pc + 1 = n) (k : X p l e R s m args below meth c D A H0 nL Q bs cells slots lv n (.int (f x.toNatClampNeg) :: st)) : X p l e R s m args below meth c D A H0 nL Q bs cells slots lv pc (.int x :: .ref a :: st) := by
  intro H locs ls hB hS hl
  obtain ⟨q0, h1, -⟩ := xw_at bs b i _ _ hb hi
  exact va_zald (D := D) C.1 C.2.1 C.2.2.2.2.2.1.1 hB.1 q0 2 h1 (by rw [← hcy]; rfl) hin d (by rw [hn]; exact k H locs ls hB hS hl)
theorem xr_iast (C : XC p s m args c cc Ts own D cy nL A H0) {a N : Nat} {cA : ClassId} {f : Nat → Int32} {x v : Int32} (b i : Nat) {kb : va_W} (hb : bs[b]? = some kb) (hi : kb[i]? = some (a, .inl (cA, N, .inl f))) (hcy : cy 1 = cA) (hin : vp_in x N) (bs' : List va_W) (hbs : bs.set b (kb.set i (a, .inl (cA, N, .inl (upd f x.toNatClampNeg v)))) = bs') (d : decode cc pc = .ok (.iastore, 1)) (hn : pc + 1 = n) (k : X p l e R s m args below meth c D A H0 nL Q bs' cells slots lv n st) : X p l e R s m args below meth c D A H0 nL Q bs cells slots lv pc (.int v :: .int x :: .ref a :: st) := by
  intro H locs ls hB hS hl
  obtain ⟨q0, h1, h2⟩ := xw_at bs b i _ _ hb hi
  refine va_iast (D := D) C.1 C.2.1 C.2.2.2.2.2.1.1 hB.1 hB.2 hS q0 1 h1 (by rw [← hcy]; rfl) hin d (fun H1 locs1 hP1 hD1 hS1 => ?_)
  rw [hn]
  rw [h2, hbs] at hP1 hD1
  exact k H1 locs1 ls ⟨hP1, hD1⟩ hS1 hl
theorem xr_alen (C : XC p s m args c cc Ts own D cy nL A H0) {a : Nat} {cA : ClassId} {xx : vp_A} (b i : Nat) {kb : va_W} (hb : bs[b]? = some kb) (hi : kb[i]? = some (a, .inl (cA, xx))) (t0 : Nat) {ty : FieldType} (ht : (xn_tys cy)[t0]? = some (cA, ty)) {v : Int32} (hv : Int32.ofNat xx.1 = v) (d : decode cc pc = .ok (.arraylength, 1)) (hn : pc + 1 = n) (k : X p l e R s m args below meth c D A H0 nL Q bs cells slots lv n (.int v :: st)) : X p l e R s m args below meth c D A H0 nL Q bs cells slots lv pc (.ref a :: st) := by
  intro H locs ls hB hS hl
  obtain ⟨q0, h1, -⟩ := xw_at bs b i _ _ hb hi
  exact va_alen (D := D) C.1 C.2.1 C.2.2.2.2.2.1.1 hB.1 q0 t0 h1 ht hv d (by rw [hn]; exact k H locs ls hB hS hl)
theorem xr_perm (C : XC p s m args c cc Ts own D cy nL A H0) (i1 i2 : List Nat) (bs' : List va_W) (hp : (i1 ++ i2).isPerm (List.range bs.length) = true) (h1 : i1.filterMap (fun i => bs[i]?) = bs') (k : X p l e R s m args below meth c D A H0 nL Q bs' cells slots lv pc st) : X p l e R s m args below meth c D A H0 nL Q bs cells slots lv pc st := fun H locs ls hB hS hl => k H locs ls (hB.perm (xw_idx i1 i2 hp h1 rfl)) hS hl
theorem xr_eq {bs' : List va_W} (h : bs = bs') (k : X p l e R s m args below meth c D A H0 nL Q bs' cells slots lv pc st) : X p l e R s m args below meth c D A H0 nL Q bs cells slots lv pc st := h ▸ k
theorem xr_lv {lv' : List (Nat × Value)} (ks : List Nat) (h : lv_pick lv ks = lv') (k : X p l e R s m args below meth c D A H0 nL Q bs cells slots lv' pc st) : X p l e R s m args below meth c D A H0 nL Q bs cells slots lv pc st := fun H locs ls hB hS hl => k H locs ls hB hS (lv_sub hl ks h)
theorem xr_st {st' : List Value} (h : st = st') (k : X p l e R s m args below meth c D A H0 nL Q bs cells slots lv pc st') : X p l e R s m args below meth c D A H0 nL Q bs cells slots lv pc st := h ▸ k
theorem xr_widen {c2 s2 : Nat} (h1 : cells ≤ c2) (h2 : slots ≤ s2) (k : X p l e R s m args below meth c D A H0 nL Q bs c2 s2 lv pc st) : X p l e R s m args below meth c D A H0 nL Q bs cells slots lv pc st := fun H locs ls hB hS hl => W.widen h1 h2 (k H locs ls hB hS hl)
/-! contracts -/
/-- a method's start: the arguments, and the blocks -/
def xw_Pre (D : va_G) (cy : Nat → ClassId) (av : List Value) (bs : List va_W) (sz : Nat) : Array Value → State → Prop := va_Pc av (fun U => U.heap.size = sz ∧ va_P D vwCl bs.flatten U.heap ∧ XK D cy U ∧ va_D (fun _ => True) bs.flatten)
def xw_B (D : va_G) (bs : List va_W) (sz : Nat) (u : List va_W) (t : State) : Prop := va_P D vwCl u.flatten t.heap ∧ va_D (va_A bs.flatten sz) u.flatten
def XI (l : Launch) (D : va_G) (cy : Nat → ClassId) (y : MethodName) (ws : List Cond) (rm : Room) (av : List Value) (bs : List va_W) (post : Int32 → List va_W → Prop) : Prop :=
  ∀ sz : Nat, Met l y ws rm (xw_Pre D cy av bs sz) (va_Qi post (xw_B D bs sz) (va_A bs.flatten sz)) rm.cells rm.slots (va_A bs.flatten sz)
def XL (l : Launch) (D : va_G) (cy : Nat → ClassId) (y : MethodName) (ws : List Cond) (rm : Room) (av : List Value) (bs : List va_W) (post : Int64 → List va_W → Prop) : Prop :=
  ∀ sz : Nat, Met l y ws rm (xw_Pre D cy av bs sz) (va_Ql post (xw_B D bs sz) (va_A bs.flatten sz)) rm.cells rm.slots (va_A bs.flatten sz)
def XV (l : Launch) (D : va_G) (cy : Nat → ClassId) (y : MethodName) (ws : List Cond) (rm : Room) (av : List Value) (bs : List va_W) (post : List va_W → Prop) : Prop :=
  ∀ sz : Nat, Met l y ws rm (xw_Pre D cy av bs sz) (va_Qv post (xw_B D bs sz) (va_A bs.flatten sz)) rm.cells rm.slots (va_A bs.flatten sz)
def XR (l : Launch) (D : va_G) (cy : Nat → ClassId) (y : MethodName) (ws : List Cond) (rm : Room) (av : List Value) (bs : List va_W) (post : Nat → List va_W → Prop) : Prop :=
  ∀ sz : Nat, Met l y ws rm (xw_Pre D cy av bs sz) (va_Qr (fun u : Nat × List va_W => post u.1 u.2) (fun u a t => a = u.1 ∧ xw_B D bs sz u.2 t) (va_A bs.flatten sz)) rm.cells rm.slots (va_A bs.flatten sz)
theorem xw_blind {D : va_G} {cy : Nat → ClassId} {av : List Value} {bs : List va_W} {sz : Nat} : FrameBlind (xw_Pre D cy av bs sz) := fun a U g mk q => by
  obtain ⟨q0, q1, qP, qK, qD⟩ := q
  exact ⟨q0, q1, qP, qK.same rfl, qD⟩
theorem xw_entry {l : Launch} {D : va_G} {cy : Nat → ClassId} {y : MethodName} {ws ws' : List Cond} {rm : Room} {Qc : Array Value → State → Outcome → State → Prop} {mc ms sz maxL : Nat} {free : Addr → Prop} {cc : ByteArray} {ret : Option FieldType} {av : List Value} {bs : List va_W} (hy : plainName y.cls = true) (hw : ws = Cond.code y cc maxL ret :: ws') (hav : (lg_sl av).length ≤ maxL)
    (body : ∀ (p : Program) (e : Env) (s : State) (m : MethodId) (below : List Frame) (meth : Method) (c : Code), s.heap.size = sz → XC p s m av.toArray c cc ws y.cls D cy maxL (va_A bs.flatten s.heap.size) s.heap → meth.sig.returnType = ret → meth.locks = false → meth.name = y.name →
      X p l e rm s m av.toArray below meth c D (va_A bs.flatten s.heap.size) s.heap maxL (MQ below Qc av.toArray s mc ms free) bs 0 0 (lv_args 0 av) 0 []) : Met l y ws rm (xw_Pre D cy av bs sz) Qc mc ms free := by
  refine Met.ofW (cc := cc) (maxL := maxL) (ret := ret) hy hw ?_
  intro p e s m args below meth c s₁ B hml hv
  obtain ⟨rfl, hsz, hP, hK, hD0⟩ := hv
  have hown : s.vm.findClass y.cls = some m.cls := findClass_of_methodNamed B.named
  rw [lg_entry_eq]
  exact body p e s m below meth c hsz ⟨B.exec, B.bytes, hml, hown, atoms_spec (ws := ws) B.pre, hK, fun q h => Or.inr h⟩ B.returns B.notSynchronized (name_of_methodNamed B.named B.method).1 s.heap [] _ ⟨hP, hD0.self⟩ va_S.rf (lv_entry av hav)
theorem xw_keep {D : va_G} {cy : Nat → ClassId} {b1 b2 u : List va_W} {A : Nat → Prop} {H H1 : Heap} (hB : XB D A (b1 ++ b2) H) (hk : ∀ q : Nat, q < H.size → ¬ va_A b1.flatten H.size q → H1[q]? = H[q]?) (hF : ∀ q, va_A b1.flatten H.size q → A q) (hP1 : va_P D vwCl u.flatten H1) (hD1 : va_D (va_A b1.flatten H.size) u.flatten) : XB D A (u ++ b2) H1 := by
  obtain ⟨hP, hD⟩ := hB
  rw [List.flatten_append] at hP hD
  have hn := xw_nd hD
  rw [List.map_append] at hn
  obtain ⟨n1, n2, n3⟩ := List.nodup_append.mp hn
  have far : ∀ q, q ∈ b2.flatten → q.1 < H.size ∧ ¬ va_A b1.flatten H.size q.1 := by
    intro q hq
    have hl := (xw_mem hP (List.mem_append_right _ hq)).lt
    refine ⟨hl, fun h => ?_⟩
    rcases h with ⟨k, e, h⟩ | h
    · exact n3 q.1 (List.mem_map.mpr ⟨(q.1, e), List.mem_of_getElem? h, rfl⟩) q.1 (List.mem_map.mpr ⟨q, hq, rfl⟩) rfl
    · omega
  refine ⟨?_, ?_⟩
  · rw [List.flatten_append]
    refine xw_of fun q hq => ?_
    rcases List.mem_append.mp hq with h | h
    · exact xw_mem hP1 h
    · exact (xw_mem hP (List.mem_append_right _ h)).kept (hk q.1 (far q h).1 (far q h).2)
  · rw [List.flatten_append]
    refine xw_d ?_ fun q hq => ?_
    · rw [List.map_append]
      refine List.nodup_append.mpr ⟨xw_nd hD1, n2, fun a ha b hb e => ?_⟩
      subst e
      obtain ⟨x, hx, rfl⟩ := List.mem_map.mp ha
      obtain ⟨z, hz, ez⟩ := List.mem_map.mp hb
      exact (far z hz).2 (by rw [ez]; exact xw_dA hD1 hx)
    · rcases List.mem_append.mp hq with h | h
      · exact hF _ (xw_dA hD1 h)
      · exact xw_dA hD (List.mem_append_right _ h)
theorem xw_free {D : va_G} {b1 b2 : List va_W} {A : Nat → Prop} {H0 H : Heap} {locs : List Loc} (hB : XB D A (b1 ++ b2) H) (hS : va_S A H0 H locs) (hA : ∀ q, H0.size ≤ q → A q) : ∀ q, va_A b1.flatten H.size q → A q := by
  intro q h
  rcases h with ⟨k, e, h⟩ | h
  · exact xw_dA hB.2 (q := (q, e)) (by rw [List.flatten_append]; exact List.mem_append_left _ (List.mem_of_getElem? h))
  · exact hA q (Nat.le_trans hS.1 h)
theorem XB.eqv {D : va_G} {A : Nat → Prop} {bs b' : List va_W} {H : Heap} (h : XB D A bs H) (hp : bs.Perm b') : XB D A b' H := by
  have := h.perm (b1 := b') (b2 := []) (by rw [List.append_nil]; exact hp)
  exact this
theorem xr_callVi (C : XC p s m args c cc Ts own D cy nL A H0) {y : MethodName} {bytes : ByteArray} {maxL index nA : Nat} {ret : Option FieldType} {wsy : List Cond} {rm : Room} {b1 b2 : List va_W} {As rest : List Value} {bo : Nat} {post : Int32 → List va_W → Prop} (hM : XI l D cy y wsy rm (.ref bo :: As) b1 post) (cw : CallW R s args own y.cls index y bytes maxL ret wsy rm rm.cells rm.slots nA) (jb : Nat) {fs : List Value} {ci : Nat} {TT : u_T} {N : Nat} (hjb : bs[jb]? = some [(bo, .inr (ci, fs))]) (hcl : vwCl[ci]? = some (y.cls, TT, N)) (i1 i2 : List Nat) (hp : (i1 ++ i2).isPerm (List.range bs.length) = true) (h1 : i1.filterMap (fun i => bs[i]?) = b1) (h2 : i2.filterMap (fun i => bs[i]?) = b2) (hst : st = As.reverse ++ .ref bo :: rest) (hA : As.length = nA) (hW : (rest.map fun v => v.category).sum ≤ 8) (hc : cells + rm.cells ≤ R.cells) (hs : slots + rm.slots ≤ R.slots) (d : decode cc pc = .ok (.invokevirtual index, 3)) (hn : pc + 3 = n) (kk : ∀ (r : Int32) (u : List va_W), post r u → X p l e R s m args below meth c D A H0 nL Q (u ++ b2) (cells + rm.cells) (slots + rm.slots) lv n (.int r :: rest)) : X p l e R s m args below meth c D A H0 nL Q bs cells slots lv pc st := by
  intro H locs ls hB hS hl
  subst hst
  obtain ⟨qr, hr0, -⟩ := xw_at bs jb 0 _ _ hjb rfl
  have hBp := hB.eqv (xw_idx i1 i2 hp h1 h2)
  have hB1 := XB.perm hB (xw_idx i1 i2 hp h1 h2)
  have hF := xw_free hBp hS C.2.2.2.2.2.2
  refine va_calli (va_runV (As := As) (rest := rest) ⟨C.1, C.2.1, C.2.2.1, C.2.2.2.1, C.2.2.2.2.1⟩ (hM H.size) cw ⟨xw_blind, va_recv C.2.2.2.2.2.1.1 hB.1 hcl hr0, fun U hU hW => ⟨rfl, by rw [hU], by rw [hU]; exact hB1.1, C.2.2.2.2.2.1.warm hW, hB1.2.weaken (fun _ _ _ _ => trivial)⟩⟩ rfl hA hl.1 rfl (lv_room hW) d ⟨hc, hs⟩) hS (fun q _ h => hF q h) hF (fun r u t H1 locs1 ht hvm hw hB1 hz1 hk1 hS1 => ?_)
  rw [hn]
  exact kk r u hw H1 locs1 ls (xw_keep (cy := cy) hBp hk1 hF (by rw [← ht]; exact hB1.1) hB1.2) hS1 hl
theorem xr_callSi (C : XC p s m args c cc Ts own D cy nL A H0) {y : MethodName} {bytes : ByteArray} {maxL index nA : Nat} {ret : Option FieldType} {wsy : List Cond} {rm : Room} {b1 b2 : List va_W} {As rest : List Value} {bo : Nat} {post : Int32 → List va_W → Prop} (hM : XI l D cy y wsy rm As b1 post) (cw : CallB R s args own index y bytes maxL ret wsy rm rm.cells rm.slots nA ∧ (Cond.static y).before args s = true) (i1 i2 : List Nat) (hp : (i1 ++ i2).isPerm (List.range bs.length) = true) (h1 : i1.filterMap (fun i => bs[i]?) = b1) (h2 : i2.filterMap (fun i => bs[i]?) = b2) (hst : st = As.reverse ++ rest) (hA : As.length = nA) (hW : (rest.map fun v => v.category).sum ≤ 8) (hc : cells + rm.cells ≤ R.cells) (hs : slots + rm.slots ≤ R.slots) (d : decode cc pc = .ok (.invokestatic index, 3)) (hn : pc + 3 = n) (kk : ∀ (r : Int32) (u : List va_W), post r u → X p l e R s m args below meth c D A H0 nL Q (u ++ b2) (cells + rm.cells) (slots + rm.slots) lv n (.int r :: rest)) : X p l e R s m args below meth c D A H0 nL Q bs cells slots lv pc st := by
  intro H locs ls hB hS hl
  subst hst
  have hBp := hB.eqv (xw_idx i1 i2 hp h1 h2)
  have hB1 := XB.perm hB (xw_idx i1 i2 hp h1 h2)
  have hF := xw_free hBp hS C.2.2.2.2.2.2
  refine va_calli (va_runS (As := As) (rest := rest) ⟨C.1, C.2.1, C.2.2.1, C.2.2.2.1, C.2.2.2.2.1⟩ (hM H.size) cw ⟨xw_blind, fun U hU hW => ⟨rfl, by rw [hU], by rw [hU]; exact hB1.1, C.2.2.2.2.2.1.warm hW, hB1.2.weaken (fun _ _ _ _ => trivial)⟩⟩ rfl hA hl.1 rfl (lv_room hW) d ⟨hc, hs⟩) hS (fun q _ h => hF q h) hF (fun r u t H1 locs1 ht hvm hw hB1 hz1 hk1 hS1 => ?_)
  rw [hn]
  exact kk r u hw H1 locs1 ls (xw_keep (cy := cy) hBp hk1 hF (by rw [← ht]; exact hB1.1) hB1.2) hS1 hl
theorem xr_callVl (C : XC p s m args c cc Ts own D cy nL A H0) {y : MethodName} {bytes : ByteArray} {maxL index nA : Nat} {ret : Option FieldType} {wsy : List Cond} {rm : Room} {b1 b2 : List va_W} {As rest : List Value} {bo : Nat} {post : Int64 → List va_W → Prop} (hM : XL l D cy y wsy rm (.ref bo :: As) b1 post) (cw : CallW R s args own y.cls index y bytes maxL ret wsy rm rm.cells rm.slots nA) (jb : Nat) {fs : List Value} {ci : Nat} {TT : u_T} {N : Nat} (hjb : bs[jb]? = some [(bo, .inr (ci, fs))]) (hcl : vwCl[ci]? = some (y.cls, TT, N)) (i1 i2 : List Nat) (hp : (i1 ++ i2).isPerm (List.range bs.length) = true) (h1 : i1.filterMap (fun i => bs[i]?) = b1) (h2 : i2.filterMap (fun i => bs[i]?) = b2) (hst : st = As.reverse ++ .ref bo :: rest) (hA : As.length = nA) (hW : (rest.map fun v => v.category).sum ≤ 8) (hc : cells + rm.cells ≤ R.cells) (hs : slots + rm.slots ≤ R.slots) (d : decode cc pc = .ok (.invokevirtual index, 3)) (hn : pc + 3 = n) (kk : ∀ (r : Int64) (u : List va_W), post r u → X p l e R s m args below meth c D A H0 nL Q (u ++ b2) (cells + rm.cells) (slots + rm.slots) lv n (.long r :: rest)) : X p l e R s m args below meth c D A H0 nL Q bs cells slots lv pc st := by
  intro H locs ls hB hS hl
  subst hst
  obtain ⟨qr, hr0, -⟩ := xw_at bs jb 0 _ _ hjb rfl
  have hBp := hB.eqv (xw_idx i1 i2 hp h1 h2)
  have hB1 := XB.perm hB (xw_idx i1 i2 hp h1 h2)
  have hF := xw_free hBp hS C.2.2.2.2.2.2
  refine va_calll (va_runV (As := As) (rest := rest) ⟨C.1, C.2.1, C.2.2.1, C.2.2.2.1, C.2.2.2.2.1⟩ (hM H.size) cw ⟨xw_blind, va_recv C.2.2.2.2.2.1.1 hB.1 hcl hr0, fun U hU hW => ⟨rfl, by rw [hU], by rw [hU]; exact hB1.1, C.2.2.2.2.2.1.warm hW, hB1.2.weaken (fun _ _ _ _ => trivial)⟩⟩ rfl hA hl.1 rfl (lv_room hW) d ⟨hc, hs⟩) hS (fun q _ h => hF q h) hF (fun r u t H1 locs1 ht hvm hw hB1 hz1 hk1 hS1 => ?_)
  rw [hn]
  exact kk r u hw H1 locs1 ls (xw_keep (cy := cy) hBp hk1 hF (by rw [← ht]; exact hB1.1) hB1.2) hS1 hl
theorem xr_callSl (C : XC p s m args c cc Ts own D cy nL A H0) {y : MethodName} {bytes : ByteArray} {maxL index nA : Nat} {ret : Option FieldType} {wsy : List Cond} {rm : Room} {b1 b2 : List va_W} {As rest : List Value} {bo : Nat} {post : Int64 → List va_W → Prop} (hM : XL l D cy y wsy rm As b1 post) (cw : CallB R s args own index y bytes maxL ret wsy rm rm.cells rm.slots nA ∧ (Cond.static y).before args s = true) (i1 i2 : List Nat) (hp : (i1 ++ i2).isPerm (List.range bs.length) = true) (h1 : i1.filterMap (fun i => bs[i]?) = b1) (h2 : i2.filterMap (fun i => bs[i]?) = b2) (hst : st = As.reverse ++ rest) (hA : As.length = nA) (hW : (rest.map fun v => v.category).sum ≤ 8) (hc : cells + rm.cells ≤ R.cells) (hs : slots + rm.slots ≤ R.slots) (d : decode cc pc = .ok (.invokestatic index, 3)) (hn : pc + 3 = n) (kk : ∀ (r : Int64) (u : List va_W), post r u → X p l e R s m args below meth c D A H0 nL Q (u ++ b2) (cells + rm.cells) (slots + rm.slots) lv n (.long r :: rest)) : X p l e R s m args below meth c D A H0 nL Q bs cells slots lv pc st := by
  intro H locs ls hB hS hl
  subst hst
  have hBp := hB.eqv (xw_idx i1 i2 hp h1 h2)
  have hB1 := XB.perm hB (xw_idx i1 i2 hp h1 h2)
  have hF := xw_free hBp hS C.2.2.2.2.2.2
  refine va_calll (va_runS (As := As) (rest := rest) ⟨C.1, C.2.1, C.2.2.1, C.2.2.2.1, C.2.2.2.2.1⟩ (hM H.size) cw ⟨xw_blind, fun U hU hW => ⟨rfl, by rw [hU], by rw [hU]; exact hB1.1, C.2.2.2.2.2.1.warm hW, hB1.2.weaken (fun _ _ _ _ => trivial)⟩⟩ rfl hA hl.1 rfl (lv_room hW) d ⟨hc, hs⟩) hS (fun q _ h => hF q h) hF (fun r u t H1 locs1 ht hvm hw hB1 hz1 hk1 hS1 => ?_)
  rw [hn]
  exact kk r u hw H1 locs1 ls (xw_keep (cy := cy) hBp hk1 hF (by rw [← ht]; exact hB1.1) hB1.2) hS1 hl
theorem xr_callVv (C : XC p s m args c cc Ts own D cy nL A H0) {y : MethodName} {bytes : ByteArray} {maxL index nA : Nat} {ret : Option FieldType} {wsy : List Cond} {rm : Room} {b1 b2 : List va_W} {As rest : List Value} {bo : Nat} {post : List va_W → Prop} (hM : XV l D cy y wsy rm (.ref bo :: As) b1 post) (cw : CallW R s args own y.cls index y bytes maxL ret wsy rm rm.cells rm.slots nA) (jb : Nat) {fs : List Value} {ci : Nat} {TT : u_T} {N : Nat} (hjb : bs[jb]? = some [(bo, .inr (ci, fs))]) (hcl : vwCl[ci]? = some (y.cls, TT, N)) (i1 i2 : List Nat) (hp : (i1 ++ i2).isPerm (List.range bs.length) = true) (h1 : i1.filterMap (fun i => bs[i]?) = b1) (h2 : i2.filterMap (fun i => bs[i]?) = b2) (hst : st = As.reverse ++ .ref bo :: rest) (hA : As.length = nA) (hW : (rest.map fun v => v.category).sum ≤ 8) (hc : cells + rm.cells ≤ R.cells) (hs : slots + rm.slots ≤ R.slots) (d : decode cc pc = .ok (.invokevirtual index, 3)) (hn : pc + 3 = n) (kk : ∀ (u : List va_W), post u → X p l e R s m args below meth c D A H0 nL Q (u ++ b2) (cells + rm.cells) (slots + rm.slots) lv n rest) : X p l e R s m args below meth c D A H0 nL Q bs cells slots lv pc st := by
  intro H locs ls hB hS hl
  subst hst
  obtain ⟨qr, hr0, -⟩ := xw_at bs jb 0 _ _ hjb rfl
  have hBp := hB.eqv (xw_idx i1 i2 hp h1 h2)
  have hB1 := XB.perm hB (xw_idx i1 i2 hp h1 h2)
  have hF := xw_free hBp hS C.2.2.2.2.2.2
  refine va_callv (va_runV (As := As) (rest := rest) ⟨C.1, C.2.1, C.2.2.1, C.2.2.2.1, C.2.2.2.2.1⟩ (hM H.size) cw ⟨xw_blind, va_recv C.2.2.2.2.2.1.1 hB.1 hcl hr0, fun U hU hW => ⟨rfl, by rw [hU], by rw [hU]; exact hB1.1, C.2.2.2.2.2.1.warm hW, hB1.2.weaken (fun _ _ _ _ => trivial)⟩⟩ rfl hA hl.1 rfl (lv_room hW) d ⟨hc, hs⟩) hS (fun q _ h => hF q h) hF (fun u t H1 locs1 ht hvm hw hB1 hz1 hk1 hS1 => ?_)
  rw [hn]
  exact kk u hw H1 locs1 ls (xw_keep (cy := cy) hBp hk1 hF (by rw [← ht]; exact hB1.1) hB1.2) hS1 hl
theorem xr_callSv (C : XC p s m args c cc Ts own D cy nL A H0) {y : MethodName} {bytes : ByteArray} {maxL index nA : Nat} {ret : Option FieldType} {wsy : List Cond} {rm : Room} {b1 b2 : List va_W} {As rest : List Value} {bo : Nat} {post : List va_W → Prop} (hM : XV l D cy y wsy rm As b1 post) (cw : CallB R s args own index y bytes maxL ret wsy rm rm.cells rm.slots nA ∧ (Cond.static y).before args s = true) (i1 i2 : List Nat) (hp : (i1 ++ i2).isPerm (List.range bs.length) = true) (h1 : i1.filterMap (fun i => bs[i]?) = b1) (h2 : i2.filterMap (fun i => bs[i]?) = b2) (hst : st = As.reverse ++ rest) (hA : As.length = nA) (hW : (rest.map fun v => v.category).sum ≤ 8) (hc : cells + rm.cells ≤ R.cells) (hs : slots + rm.slots ≤ R.slots) (d : decode cc pc = .ok (.invokestatic index, 3)) (hn : pc + 3 = n) (kk : ∀ (u : List va_W), post u → X p l e R s m args below meth c D A H0 nL Q (u ++ b2) (cells + rm.cells) (slots + rm.slots) lv n rest) : X p l e R s m args below meth c D A H0 nL Q bs cells slots lv pc st := by
  intro H locs ls hB hS hl
  subst hst
  have hBp := hB.eqv (xw_idx i1 i2 hp h1 h2)
  have hB1 := XB.perm hB (xw_idx i1 i2 hp h1 h2)
  have hF := xw_free hBp hS C.2.2.2.2.2.2
  refine va_callv (va_runS (As := As) (rest := rest) ⟨C.1, C.2.1, C.2.2.1, C.2.2.2.1, C.2.2.2.2.1⟩ (hM H.size) cw ⟨xw_blind, fun U hU hW => ⟨rfl, by rw [hU], by rw [hU]; exact hB1.1, C.2.2.2.2.2.1.warm hW, hB1.2.weaken (fun _ _ _ _ => trivial)⟩⟩ rfl hA hl.1 rfl (lv_room hW) d ⟨hc, hs⟩) hS (fun q _ h => hF q h) hF (fun u t H1 locs1 ht hvm hw hB1 hz1 hk1 hS1 => ?_)
  rw [hn]
  exact kk u hw H1 locs1 ls (xw_keep (cy := cy) hBp hk1 hF (by rw [← ht]; exact hB1.1) hB1.2) hS1 hl
theorem xr_callIv (C : XC p s m args c cc Ts own D cy nL A H0) {y : MethodName} {bytes : ByteArray} {maxL index nA : Nat} {ret : Option FieldType} {wsy : List Cond} {rm : Room} {b1 b2 : List va_W} {As rest : List Value} {bo : Nat} {post : List va_W → Prop} (hM : XV l D cy y wsy rm (.ref bo :: As) b1 post) (cw : CallB R s args own index y bytes maxL none wsy rm rm.cells rm.slots nA ∧ y.name = "<init>" ∧ (Cond.instanceMethod y).before args s = true) (i1 i2 : List Nat) (hp : (i1 ++ i2).isPerm (List.range bs.length) = true) (h1 : i1.filterMap (fun i => bs[i]?) = b1) (h2 : i2.filterMap (fun i => bs[i]?) = b2) (hst : st = As.reverse ++ .ref bo :: rest) (hA : As.length = nA) (hW : (rest.map fun v => v.category).sum ≤ 8) (hc : cells + rm.cells ≤ R.cells) (hs : slots + rm.slots ≤ R.slots) (d : decode cc pc = .ok (.invokespecial index, 3)) (hn : pc + 3 = n) (kk : ∀ (u : List va_W), post u → X p l e R s m args below meth c D A H0 nL Q (u ++ b2) (cells + rm.cells) (slots + rm.slots) lv n rest) : X p l e R s m args below meth c D A H0 nL Q bs cells slots lv pc st := by
  intro H locs ls hB hS hl
  subst hst
  have hBp := hB.eqv (xw_idx i1 i2 hp h1 h2)
  have hB1 := XB.perm hB (xw_idx i1 i2 hp h1 h2)
  have hF := xw_free hBp hS C.2.2.2.2.2.2
  refine va_callv (va_runI (As := As) (rest := rest) ⟨C.1, C.2.1, C.2.2.1, C.2.2.2.1, C.2.2.2.2.1⟩ (hM H.size) cw ⟨xw_blind, fun U hU hW => ⟨rfl, by rw [hU], by rw [hU]; exact hB1.1, C.2.2.2.2.2.1.warm hW, hB1.2.weaken (fun _ _ _ _ => trivial)⟩⟩ rfl hA hl.1 rfl (lv_room hW) d ⟨hc, hs⟩) hS (fun q _ h => hF q h) hF (fun u t H1 locs1 ht hvm hw hB1 hz1 hk1 hS1 => ?_)
  rw [hn]
  exact kk u hw H1 locs1 ls (xw_keep (cy := cy) hBp hk1 hF (by rw [← ht]; exact hB1.1) hB1.2) hS1 hl
theorem xr_callINv (C : XC p s m args c cc Ts own D cy nL A H0) {y : MethodName} {bytes : ByteArray} {maxL index nA : Nat} {ret : Option FieldType} {wsy : List Cond} {rm : Room} {b1 b2 : List va_W} {As rest : List Value} {bo : Nat} {post : List va_W → Prop} (hM : XV l D cy y wsy rm (.ref bo :: As) b1 post) {host : String} (cw : va_CN R s args own index y host bytes maxL none wsy rm rm.cells rm.slots nA ∧ y.name = "<init>" ∧ (Cond.instanceMethod y).before args s = true) (i1 i2 : List Nat) (hp : (i1 ++ i2).isPerm (List.range bs.length) = true) (h1 : i1.filterMap (fun i => bs[i]?) = b1) (h2 : i2.filterMap (fun i => bs[i]?) = b2) (hst : st = As.reverse ++ .ref bo :: rest) (hA : As.length = nA) (hW : (rest.map fun v => v.category).sum ≤ 8) (hc : cells + rm.cells ≤ R.cells) (hs : slots + rm.slots ≤ R.slots) (d : decode cc pc = .ok (.invokespecial index, 3)) (hn : pc + 3 = n) (kk : ∀ (u : List va_W), post u → X p l e R s m args below meth c D A H0 nL Q (u ++ b2) (cells + rm.cells) (slots + rm.slots) lv n rest) : X p l e R s m args below meth c D A H0 nL Q bs cells slots lv pc st := by
  intro H locs ls hB hS hl
  subst hst
  have hBp := hB.eqv (xw_idx i1 i2 hp h1 h2)
  have hB1 := XB.perm hB (xw_idx i1 i2 hp h1 h2)
  have hF := xw_free hBp hS C.2.2.2.2.2.2
  refine va_callv (va_runIN (As := As) (rest := rest) ⟨C.1, C.2.1, C.2.2.1, C.2.2.2.1, C.2.2.2.2.1⟩ (hM H.size) cw ⟨xw_blind, fun U hU hW => ⟨rfl, by rw [hU], by rw [hU]; exact hB1.1, C.2.2.2.2.2.1.warm hW, hB1.2.weaken (fun _ _ _ _ => trivial)⟩⟩ rfl hA hl.1 rfl (lv_room hW) d ⟨hc, hs⟩) hS (fun q _ h => hF q h) hF (fun u t H1 locs1 ht hvm hw hB1 hz1 hk1 hS1 => ?_)
  rw [hn]
  exact kk u hw H1 locs1 ls (xw_keep (cy := cy) hBp hk1 hF (by rw [← ht]; exact hB1.1) hB1.2) hS1 hl
theorem xr_callVr (C : XC p s m args c cc Ts own D cy nL A H0) {y : MethodName} {bytes : ByteArray} {maxL index nA : Nat} {ret : Option FieldType} {wsy : List Cond} {rm : Room} {b1 b2 : List va_W} {As rest : List Value} {bo : Nat} {post : Nat → List va_W → Prop} (hM : XR l D cy y wsy rm (.ref bo :: As) b1 post) (cw : CallW R s args own y.cls index y bytes maxL ret wsy rm rm.cells rm.slots nA) (jb : Nat) {fs : List Value} {ci : Nat} {TT : u_T} {N : Nat} (hjb : bs[jb]? = some [(bo, .inr (ci, fs))]) (hcl : vwCl[ci]? = some (y.cls, TT, N)) (i1 i2 : List Nat) (hp : (i1 ++ i2).isPerm (List.range bs.length) = true) (h1 : i1.filterMap (fun i => bs[i]?) = b1) (h2 : i2.filterMap (fun i => bs[i]?) = b2) (hst : st = As.reverse ++ .ref bo :: rest) (hA : As.length = nA) (hW : (rest.map fun v => v.category).sum ≤ 8) (hc : cells + rm.cells ≤ R.cells) (hs : slots + rm.slots ≤ R.slots) (d : decode cc pc = .ok (.invokevirtual index, 3)) (hn : pc + 3 = n) (kk : ∀ (r : Nat) (u : List va_W), post r u → X p l e R s m args below meth c D A H0 nL Q (u ++ b2) (cells + rm.cells) (slots + rm.slots) lv n (.ref r :: rest)) : X p l e R s m args below meth c D A H0 nL Q bs cells slots lv pc st := by
  intro H locs ls hB hS hl
  subst hst
  obtain ⟨qr, hr0, -⟩ := xw_at bs jb 0 _ _ hjb rfl
  have hBp := hB.eqv (xw_idx i1 i2 hp h1 h2)
  have hB1 := XB.perm hB (xw_idx i1 i2 hp h1 h2)
  have hF := xw_free hBp hS C.2.2.2.2.2.2
  refine va_callr (va_runV (As := As) (rest := rest) ⟨C.1, C.2.1, C.2.2.1, C.2.2.2.1, C.2.2.2.2.1⟩ (hM H.size) cw ⟨xw_blind, va_recv C.2.2.2.2.2.1.1 hB.1 hcl hr0, fun U hU hW => ⟨rfl, by rw [hU], by rw [hU]; exact hB1.1, C.2.2.2.2.2.1.warm hW, hB1.2.weaken (fun _ _ _ _ => trivial)⟩⟩ rfl hA hl.1 rfl (lv_room hW) d ⟨hc, hs⟩) hS (fun q _ h => hF q h) hF (fun u r t H1 locs1 ht hvm hw hB1 hz1 hk1 hS1 => ?_)
  obtain ⟨e0, hB1⟩ := hB1
  subst e0
  rw [hn]
  exact kk u.1 u.2 hw H1 locs1 ls (xw_keep (cy := cy) hBp hk1 hF (by rw [← ht]; exact hB1.1) hB1.2) hS1 hl
theorem xr_callSr (C : XC p s m args c cc Ts own D cy nL A H0) {y : MethodName} {bytes : ByteArray} {maxL index nA : Nat} {ret : Option FieldType} {wsy : List Cond} {rm : Room} {b1 b2 : List va_W} {As rest : List Value} {bo : Nat} {post : Nat → List va_W → Prop} (hM : XR l D cy y wsy rm As b1 post) (cw : CallB R s args own index y bytes maxL ret wsy rm rm.cells rm.slots nA ∧ (Cond.static y).before args s = true) (i1 i2 : List Nat) (hp : (i1 ++ i2).isPerm (List.range bs.length) = true) (h1 : i1.filterMap (fun i => bs[i]?) = b1) (h2 : i2.filterMap (fun i => bs[i]?) = b2) (hst : st = As.reverse ++ rest) (hA : As.length = nA) (hW : (rest.map fun v => v.category).sum ≤ 8) (hc : cells + rm.cells ≤ R.cells) (hs : slots + rm.slots ≤ R.slots) (d : decode cc pc = .ok (.invokestatic index, 3)) (hn : pc + 3 = n) (kk : ∀ (r : Nat) (u : List va_W), post r u → X p l e R s m args below meth c D A H0 nL Q (u ++ b2) (cells + rm.cells) (slots + rm.slots) lv n (.ref r :: rest)) : X p l e R s m args below meth c D A H0 nL Q bs cells slots lv pc st := by
  intro H locs ls hB hS hl
  subst hst
  have hBp := hB.eqv (xw_idx i1 i2 hp h1 h2)
  have hB1 := XB.perm hB (xw_idx i1 i2 hp h1 h2)
  have hF := xw_free hBp hS C.2.2.2.2.2.2
  refine va_callr (va_runS (As := As) (rest := rest) ⟨C.1, C.2.1, C.2.2.1, C.2.2.2.1, C.2.2.2.2.1⟩ (hM H.size) cw ⟨xw_blind, fun U hU hW => ⟨rfl, by rw [hU], by rw [hU]; exact hB1.1, C.2.2.2.2.2.1.warm hW, hB1.2.weaken (fun _ _ _ _ => trivial)⟩⟩ rfl hA hl.1 rfl (lv_room hW) d ⟨hc, hs⟩) hS (fun q _ h => hF q h) hF (fun u r t H1 locs1 ht hvm hw hB1 hz1 hk1 hS1 => ?_)
  obtain ⟨e0, hB1⟩ := hB1
  subst e0
  rw [hn]
  exact kk u.1 u.2 hw H1 locs1 ls (xw_keep (cy := cy) hBp hk1 hF (by rw [← ht]; exact hB1.1) hB1.2) hS1 hl
theorem xr_iret (C : XC p s m args c cc Ts own D cy nL A H0) {v : Int32} {b0 : List va_W} {sz mc ms : Nat} {post : Int32 → List va_W → Prop} (hr : meth.sig.returnType = some .int) (hlk : meth.locks = false) (hz : s.heap.size = sz) (hc : cells ≤ mc) (hs : slots ≤ ms) (hA : A = va_A b0.flatten sz) (hH : H0 = s.heap) (hp : post v bs) (d : decode cc pc = .ok (.ireturn, 1)) (hst : st = [.int v]) : X p l e R s m args below meth c D A H0 nL (MQ below (va_Qi post (xw_B D b0 sz) (va_A b0.flatten sz)) args s mc ms (va_A b0.flatten sz)) bs cells slots lv pc st := by
  intro H locs ls hB hS hl
  subst hst; subst hA; subst hH
  refine W.widen hc hs ?_
  exact W.iret (v := v) C.1 C.2.1 hr (fun t ht hW => ⟨⟨v, bs, rfl, hp, by rw [ht]; exact hB.1, hB.2⟩, hS.F ht⟩) hS.2.2 d hlk
theorem xr_lret (C : XC p s m args c cc Ts own D cy nL A H0) {v : Int64} {b0 : List va_W} {sz mc ms : Nat} {post : Int64 → List va_W → Prop} (hr : meth.sig.returnType = some .long) (hlk : meth.locks = false) (hz : s.heap.size = sz) (hc : cells ≤ mc) (hs : slots ≤ ms) (hA : A = va_A b0.flatten sz) (hH : H0 = s.heap) (hp : post v bs) (d : decode cc pc = .ok (.lreturn, 1)) (hst : st = [.long v]) : X p l e R s m args below meth c D A H0 nL (MQ below (va_Ql post (xw_B D b0 sz) (va_A b0.flatten sz)) args s mc ms (va_A b0.flatten sz)) bs cells slots lv pc st := by
  intro H locs ls hB hS hl
  subst hst; subst hA; subst hH
  refine W.widen hc hs ?_
  exact W.lret (v := v) C.1 C.2.1 hr (fun t ht hW => ⟨⟨v, bs, rfl, hp, by rw [ht]; exact hB.1, hB.2⟩, hS.F ht⟩) hS.2.2 d hlk
theorem xr_zret (C : XC p s m args c cc Ts own D cy nL A H0) {v : Int32} {ty : FieldType} {b0 : List va_W} {sz mc ms : Nat} {post : Int32 → List va_W → Prop} (hr : meth.sig.returnType = some ty) (hnr : narrow ty (.int v) = .int v) (hlk : meth.locks = false) (hz : s.heap.size = sz) (hc : cells ≤ mc) (hs : slots ≤ ms) (hA : A = va_A b0.flatten sz) (hH : H0 = s.heap) (hp : post v bs) (d : decode cc pc = .ok (.ireturn, 1)) (hst : st = [.int v]) : X p l e R s m args below meth c D A H0 nL (MQ below (va_Qi post (xw_B D b0 sz) (va_A b0.flatten sz)) args s mc ms (va_A b0.flatten sz)) bs cells slots lv pc st := by
  intro H locs ls hB hS hl
  subst hst; subst hA; subst hH
  refine W.widen hc hs ?_
  exact W.zret (v := v) C.1 C.2.1 hr hnr (fun t ht hW => ⟨⟨v, bs, rfl, hp, by rw [ht]; exact hB.1, hB.2⟩, hS.F ht⟩) hS.2.2 d hlk
theorem xr_vret (C : XC p s m args c cc Ts own D cy nL A H0) {b0 : List va_W} {sz mc ms : Nat} {post : List va_W → Prop} (hr : meth.sig.returnType = none) (hlk : meth.locks = false) (hz : s.heap.size = sz) (hc : cells ≤ mc) (hs : slots ≤ ms) (hA : A = va_A b0.flatten sz) (hH : H0 = s.heap) (hp : post bs) (d : decode cc pc = .ok (.return_, 1)) (hst : st = []) : X p l e R s m args below meth c D A H0 nL (MQ below (va_Qv post (xw_B D b0 sz) (va_A b0.flatten sz)) args s mc ms (va_A b0.flatten sz)) bs cells slots lv pc st := by
  intro H locs ls hB hS hl
  subst hst; subst hA; subst hH
  refine W.widen hc hs ?_
  exact W.vret C.1 C.2.1 hr (fun t ht hW => ⟨⟨bs, rfl, hp, by rw [ht]; exact hB.1, hB.2⟩, hS.F ht⟩) hS.2.2 d hlk
theorem xr_objInit (C : XC p s m args c cc Ts own D cy nL A H0) {index a : Nat} (hlink : (Cond.methodLink own index objectInit) ∈ Ts) (hinst : (Cond.instanceMethod objectInit) ∈ Ts) (hcode : (Cond.code objectInit ⟨#[0xb1]⟩ 1 none) ∈ Ts) (hW : (st.map fun v => v.category).sum ≤ 8) (hf : 1 ≤ R.frames) (hlo : 12 ≤ R.locals) (d : decode cc pc = .ok (.invokespecial index, 3)) (hn : pc + 3 = n) (k : X p l e R s m args below meth c D A H0 nL Q bs cells slots lv n st) : X p l e R s m args below meth c D A H0 nL Q bs cells slots lv pc (.ref a :: st) := by
  intro H locs ls hB hS hl
  refine W.objInit C.1 C.2.1 C.2.2.2.1 (C.2.2.2.2.1 _ hlink) (C.2.2.2.2.1 _ hinst) (C.2.2.2.2.1 _ hcode) rfl (by rw [C.2.2.1]; exact hl.1) rfl d hf ?_ ?_
  · omega
  · refine W.eq (g2 := F0 m n ls st) (by rw [← hn]) ?_
    exact k H locs ls hB hS hl
theorem xr_mmin (C : XC p s m args c cc Ts own D cy nL A H0) {index : Nat} {x y : Int32} (w1 : (Cond.methodLink own index Lib.Math.min.name) ∈ Ts) (w2 : (Cond.static Lib.Math.min.name) ∈ Ts) (w3 : (Cond.initialized "java/lang/Math") ∈ Ts) (w4 : (Cond.code Lib.Math.min.name Lib.Math.min.code 2 (some .int)) ∈ Ts) (hf : 1 ≤ R.frames) (hlo : (st.map fun v => v.category).sum + 13 ≤ R.locals) (hc : cells ≤ R.cells) (hs : slots ≤ R.slots) (d : decode cc pc = .ok (.invokestatic index, 3)) (hn : pc + 3 = n) (k : X p l e R s m args below meth c D A H0 nL Q bs cells slots lv n (.int (xn_min x y) :: st)) : X p l e R s m args below meth c D A H0 nL Q bs cells slots lv pc (.int y :: .int x :: st) := by
  intro H locs ls hB hS hl
  exact va_mmin C.1 C.2.1 (by rw [C.2.2.1]; exact hl.1.symm) C.2.2.2.1 (C.2.2.2.2.1 _ w1) (C.2.2.2.2.1 _ w2) (C.2.2.2.2.1 _ w3) (C.2.2.2.2.1 _ w4) hf hlo hc hs d (by rw [hn]; exact k H locs ls hB hS hl)
theorem xr_mmax (C : XC p s m args c cc Ts own D cy nL A H0) {index : Nat} {x y : Int32} (w1 : (Cond.methodLink own index Lib.Math.max.name) ∈ Ts) (w2 : (Cond.static Lib.Math.max.name) ∈ Ts) (w3 : (Cond.initialized "java/lang/Math") ∈ Ts) (w4 : (Cond.code Lib.Math.max.name Lib.Math.max.code 2 (some .int)) ∈ Ts) (hf : 1 ≤ R.frames) (hlo : (st.map fun v => v.category).sum + 13 ≤ R.locals) (hc : cells ≤ R.cells) (hs : slots ≤ R.slots) (d : decode cc pc = .ok (.invokestatic index, 3)) (hn : pc + 3 = n) (k : X p l e R s m args below meth c D A H0 nL Q bs cells slots lv n (.int (xn_max x y) :: st)) : X p l e R s m args below meth c D A H0 nL Q bs cells slots lv pc (.int y :: .int x :: st) := by
  intro H locs ls hB hS hl
  exact va_mmax C.1 C.2.1 (by rw [C.2.2.1]; exact hl.1.symm) C.2.2.2.1 (C.2.2.2.2.1 _ w1) (C.2.2.2.2.1 _ w2) (C.2.2.2.2.1 _ w3) (C.2.2.2.2.1 _ w4) hf hlo hc hs d (by rw [hn]; exact k H locs ls hB hS hl)
end XR
theorem XI.of {l : Launch} {D : va_G} {cy : Nat → ClassId} {y : MethodName} {ws ws' : List Cond} {rm : Room} {maxL : Nat} {cc : ByteArray} {ret : Option FieldType} {av : List Value} {bs : List va_W} {post : Int32 → List va_W → Prop} (hy : plainName y.cls = true) (hw : ws = Cond.code y cc maxL ret :: ws') (hav : (lg_sl av).length ≤ maxL) (lv0 : List (Nat × Value)) (hlv : lv_args 0 av = lv0) (hret : ret = some .int)
    (body : ∀ (p : Program) (e : Env) (s : State) (m : MethodId) (args : Array Value) (below : List Frame) (meth : Method) (c : Code) (A : Nat → Prop) (H0 : Heap) (Q : State → Prop), XC p s m args c cc ws y.cls D cy maxL A H0 → meth.name = y.name →
      (∀ {u : List va_W} {cells slots : Nat} {lv : List (Nat × Value)} {pc : Nat} (v : Int32), post v u → cells ≤ rm.cells → slots ≤ rm.slots → decode cc pc = .ok (.ireturn, 1) → X p l e rm s m args below meth c D A H0 maxL Q u cells slots lv pc [.int v]) →
      X p l e rm s m args below meth c D A H0 maxL Q bs 0 0 lv0 0 []) : XI l D cy y ws rm av bs post := by
  intro sz
  refine xw_entry hy hw hav (fun p e s m below meth c hz C hr hlk hnm => ?_)
  rw [hlv]
  exact body p e s m _ below meth c _ _ _ C hnm (fun {u cells slots lv pc} v hp hc hs d => xr_iret C (by rw [hr]; exact hret) hlk hz hc hs (by rw [hz]) rfl hp d rfl)
theorem XI.ofz {l : Launch} {D : va_G} {cy : Nat → ClassId} {y : MethodName} {ws ws' : List Cond} {rm : Room} {maxL : Nat} {cc : ByteArray} {ret : Option FieldType} {av : List Value} {bs : List va_W} {post : Int32 → List va_W → Prop} (hy : plainName y.cls = true) (hw : ws = Cond.code y cc maxL ret :: ws') (hav : (lg_sl av).length ≤ maxL) (lv0 : List (Nat × Value)) (hlv : lv_args 0 av = lv0) (rt : FieldType) (hrt : ret = some rt) 
    (body : ∀ (p : Program) (e : Env) (s : State) (m : MethodId) (args : Array Value) (below : List Frame) (meth : Method) (c : Code) (A : Nat → Prop) (H0 : Heap) (Q : State → Prop), XC p s m args c cc ws y.cls D cy maxL A H0 → meth.name = y.name →
      (∀ {u : List va_W} {cells slots : Nat} {lv : List (Nat × Value)} {pc : Nat} (v : Int32), narrow rt (.int v) = .int v → post v u → cells ≤ rm.cells → slots ≤ rm.slots → decode cc pc = .ok (.ireturn, 1) → X p l e rm s m args below meth c D A H0 maxL Q u cells slots lv pc [.int v]) →
      X p l e rm s m args below meth c D A H0 maxL Q bs 0 0 lv0 0 []) : XI l D cy y ws rm av bs post := by
  intro sz
  refine xw_entry hy hw hav (fun p e s m below meth c hz C hr hlk hnm => ?_)
  rw [hlv]
  exact body p e s m _ below meth c _ _ _ C hnm (fun {u cells slots lv pc} v hnr hp hc hs d => xr_zret C (ty := rt) (by rw [hr, hrt]) hnr hlk hz hc hs (by rw [hz]) rfl hp d rfl)
theorem XL.of {l : Launch} {D : va_G} {cy : Nat → ClassId} {y : MethodName} {ws ws' : List Cond} {rm : Room} {maxL : Nat} {cc : ByteArray} {ret : Option FieldType} {av : List Value} {bs : List va_W} {post : Int64 → List va_W → Prop} (hy : plainName y.cls = true) (hw : ws = Cond.code y cc maxL ret :: ws') (hav : (lg_sl av).length ≤ maxL) (lv0 : List (Nat × Value)) (hlv : lv_args 0 av = lv0) (hret : ret = some .long)
    (body : ∀ (p : Program) (e : Env) (s : State) (m : MethodId) (args : Array Value) (below : List Frame) (meth : Method) (c : Code) (A : Nat → Prop) (H0 : Heap) (Q : State → Prop), XC p s m args c cc ws y.cls D cy maxL A H0 → meth.name = y.name →
      (∀ {u : List va_W} {cells slots : Nat} {lv : List (Nat × Value)} {pc : Nat} (v : Int64), post v u → cells ≤ rm.cells → slots ≤ rm.slots → decode cc pc = .ok (.lreturn, 1) → X p l e rm s m args below meth c D A H0 maxL Q u cells slots lv pc [.long v]) →
      X p l e rm s m args below meth c D A H0 maxL Q bs 0 0 lv0 0 []) : XL l D cy y ws rm av bs post := by
  intro sz
  refine xw_entry hy hw hav (fun p e s m below meth c hz C hr hlk hnm => ?_)
  rw [hlv]
  exact body p e s m _ below meth c _ _ _ C hnm (fun {u cells slots lv pc} v hp hc hs d => xr_lret C (by rw [hr]; exact hret) hlk hz hc hs (by rw [hz]) rfl hp d rfl)
theorem XV.of {l : Launch} {D : va_G} {cy : Nat → ClassId} {y : MethodName} {ws ws' : List Cond} {rm : Room} {maxL : Nat} {cc : ByteArray} {ret : Option FieldType} {av : List Value} {bs : List va_W} {post : List va_W → Prop} (hy : plainName y.cls = true) (hw : ws = Cond.code y cc maxL ret :: ws') (hav : (lg_sl av).length ≤ maxL) (lv0 : List (Nat × Value)) (hlv : lv_args 0 av = lv0) (hret : ret = none)
    (body : ∀ (p : Program) (e : Env) (s : State) (m : MethodId) (args : Array Value) (below : List Frame) (meth : Method) (c : Code) (A : Nat → Prop) (H0 : Heap) (Q : State → Prop), XC p s m args c cc ws y.cls D cy maxL A H0 → meth.name = y.name →
      (∀ {u : List va_W} {cells slots : Nat} {lv : List (Nat × Value)} {pc : Nat} , post u → cells ≤ rm.cells → slots ≤ rm.slots → decode cc pc = .ok (.return_, 1) → X p l e rm s m args below meth c D A H0 maxL Q u cells slots lv pc []) →
      X p l e rm s m args below meth c D A H0 maxL Q bs 0 0 lv0 0 []) : XV l D cy y ws rm av bs post := by
  intro sz
  refine xw_entry hy hw hav (fun p e s m below meth c hz C hr hlk hnm => ?_)
  rw [hlv]
  exact body p e s m _ below meth c _ _ _ C hnm (fun {u cells slots lv pc}  hp hc hs d => xr_vret C (by rw [hr]; exact hret) hlk hz hc hs (by rw [hz]) rfl hp d rfl)
