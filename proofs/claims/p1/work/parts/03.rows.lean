/-! ===== words that every method has, worlds of blocks, the frame's picture X ===== -/
section YU
def yad (ad : Nat → Nat) : Nat → Option Nat := fun i => some (ad i)
def yU : List Cond := lw_tbl.filter goodWord
theorem yu {w : Cond} (i : Nat) (h : lw_tbl[i]? = some w) (g : goodWord w = true) : w ∈ yU := List.mem_filter.mpr ⟨List.mem_of_getElem? h, g⟩
theorem yu_tables_1_1 {w : Cond} (i : Nat) (h : tables_1_1[i]? = some w) (g : goodWord w = true) : w ∈ yU := List.mem_filter.mpr ⟨List.mem_append_right _ (show w ∈ tables_1 from List.mem_append_left _ (List.mem_of_getElem? h)), g⟩
theorem yu_tables_1_2 {w : Cond} (i : Nat) (h : tables_1_2[i]? = some w) (g : goodWord w = true) : w ∈ yU := List.mem_filter.mpr ⟨List.mem_append_right _ (show w ∈ tables_1 from List.mem_append_right _ (List.mem_append_left _ (List.mem_of_getElem? h))), g⟩
theorem yu_tables_1_3 {w : Cond} (i : Nat) (h : tables_1_3[i]? = some w) (g : goodWord w = true) : w ∈ yU := List.mem_filter.mpr ⟨List.mem_append_right _ (show w ∈ tables_1 from List.mem_append_right _ (List.mem_append_right _ (List.mem_append_left _ (List.mem_of_getElem? h)))), g⟩
theorem yu_tables_1_4 {w : Cond} (i : Nat) (h : tables_1_4[i]? = some w) (g : goodWord w = true) : w ∈ yU := List.mem_filter.mpr ⟨List.mem_append_right _ (show w ∈ tables_1 from List.mem_append_right _ (List.mem_append_right _ (List.mem_append_right _ (List.mem_append_left _ (List.mem_of_getElem? h))))), g⟩
theorem yu_tables_1_5 {w : Cond} (i : Nat) (h : tables_1_5[i]? = some w) (g : goodWord w = true) : w ∈ yU := List.mem_filter.mpr ⟨List.mem_append_right _ (show w ∈ tables_1 from List.mem_append_right _ (List.mem_append_right _ (List.mem_append_right _ (List.mem_append_right _ (List.mem_append_left _ (List.mem_of_getElem? h)))))), g⟩
theorem yu_tables_1_6 {w : Cond} (i : Nat) (h : tables_1_6[i]? = some w) (g : goodWord w = true) : w ∈ yU := List.mem_filter.mpr ⟨List.mem_append_right _ (show w ∈ tables_1 from List.mem_append_right _ (List.mem_append_right _ (List.mem_append_right _ (List.mem_append_right _ (List.mem_append_right _ (List.mem_append_left _ (List.mem_of_getElem? h))))))), g⟩
theorem yu_tables_1_7 {w : Cond} (i : Nat) (h : tables_1_7[i]? = some w) (g : goodWord w = true) : w ∈ yU := List.mem_filter.mpr ⟨List.mem_append_right _ (show w ∈ tables_1 from List.mem_append_right _ (List.mem_append_right _ (List.mem_append_right _ (List.mem_append_right _ (List.mem_append_right _ (List.mem_append_right _ (List.mem_of_getElem? h))))))), g⟩
theorem yU_good : ∀ w ∈ yU, goodWord w = true := fun _ h => (List.mem_filter.mp h).2
abbrev yR (d mc ms : Nat) : Room := { frames := d, cells := mc, slots := ms, locals := 100 * d }
theorem yg {ws : List Cond} (h : ∀ w ∈ ws, w ∈ yU) : GoodIn yU ws := fun w hw => ⟨h w hw, good_of_word (yU_good w (h w hw))⟩
theorem yg_cons {hd : Cond} (h : hd ∈ yU) : ∀ w ∈ hd :: yU, w ∈ yU := fun w hw => (List.mem_cons.mp hw).elim (fun e => e ▸ h) id
/-- a method of the tables: its code, its class, how many arguments -/
def yM (y : MethodName) (hd : Cond) (n : Nat) : Prop := hd ∈ yU ∧ Cond.initialized y.cls ∈ yU ∧ y.cls ≠ "java/lang/invoke/MethodHandle" ∧ y.cls ≠ "java/lang/invoke/VarHandle" ∧ (parseMethodDescriptor y.desc).map (fun d => d.parameters.length) = some n
theorem yg_V {own : String} {idx : Nat} {y : MethodName} {hd : Cond} {n : Nat} (h : yM y hd n) (h1 : Cond.methodLink own idx y ∈ yU) (h2 : Cond.instanceMethod y ∈ yU) (h3 : Cond.selects y.cls y y ∈ yU) : GoodIn yU (wsV own idx y.cls y (hd :: yU)) := by
  refine yg fun w hw => ?_
  rcases List.mem_append.mp hw with q | q
  · simp only [List.mem_cons, List.not_mem_nil, or_false] at q
    rcases q with rfl | rfl | rfl | rfl
    · exact h1
    · exact h2
    · exact h3
    · exact h.2.1
  · exact yg_cons h.1 w q
theorem yg_S {own : String} {idx : Nat} {y : MethodName} {hd : Cond} {n : Nat} (h : yM y hd n) (h1 : Cond.methodLink own idx y ∈ yU) (h2 : Cond.static y ∈ yU) : GoodIn yU (va_wsS own idx y (hd :: yU)) := by
  refine yg fun w hw => ?_
  rcases List.mem_append.mp hw with q | q
  · simp only [List.mem_cons, List.not_mem_nil, or_false] at q
    rcases q with rfl | rfl | rfl
    · exact h1
    · exact h2
    · exact h.2.1
  · exact yg_cons h.1 w q
theorem yg_U {own CC : String} {idx : Nat} {y : MethodName} {hd : Cond} {n : Nat} (h : yM y hd n) (h1 : Cond.methodLink own idx y ∈ yU) (h2 : Cond.sameMethod y.cls y.cls y.name y.desc ∈ yU) (h4 : Cond.instanceMethod y ∈ yU) : GoodIn (Cond.selects CC y y :: yU) (va_wsU own idx CC y.cls y y (hd :: yU)) := by
  intro w hw
  rcases List.mem_append.mp hw with q | q
  · simp only [List.mem_cons, List.not_mem_nil, or_false] at q
    rcases q with rfl | rfl | rfl | rfl | rfl
    · exact ⟨List.mem_cons_of_mem _ h1, good_of_word (yU_good _ h1)⟩
    · exact ⟨List.mem_cons_of_mem _ h2, good_of_word (yU_good _ h2)⟩
    · exact ⟨List.mem_cons_self, good_of_word rfl⟩
    · exact ⟨List.mem_cons_of_mem _ h4, good_of_word (yU_good _ h4)⟩
    · exact ⟨List.mem_cons_of_mem _ h.2.1, good_of_word (yU_good _ h.2.1)⟩
  · have q' := yg_cons h.1 w q
    exact ⟨List.mem_cons_of_mem _ q', good_of_word (yU_good _ q')⟩
theorem yg_O {own CC : String} {idx : Nat} {x y : MethodName} {hd : Cond} {n : Nat} (h : yM y hd n) (h1 : Cond.methodLink own idx x ∈ yU) (h2 : Cond.sameMethod x.cls x.cls x.name x.desc ∈ yU) (h5 : Cond.instanceMethod x ∈ yU) (h3 : Cond.selects CC x y ∈ yU) (h4 : Cond.instanceMethod y ∈ yU) : GoodIn yU (va_wsO own idx CC x.cls x y (hd :: yU)) := by
  refine yg fun w hw => ?_
  rcases List.mem_append.mp hw with q | q
  · simp only [List.mem_cons, List.not_mem_nil, or_false] at q
    rcases q with rfl | rfl | rfl | rfl | rfl | rfl
    · exact h1
    · exact h2
    · exact h5
    · exact h3
    · exact h4
    · exact h.2.1
  · exact yg_cons h.1 w q
theorem yg_SU {own : String} {idx : Nat} {y : MethodName} {hd : Cond} {n : Nat} (h : yM y hd n) (h1 : Cond.methodLink own idx y ∈ yU) (h2 : Cond.sameMethod y.cls y.cls y.name y.desc ∈ yU) (h3 : Cond.superclass own y.cls ∈ yU) (h4 : Cond.instanceMethod y ∈ yU) : GoodIn yU (va_wsSU own idx y (hd :: yU)) := by
  refine yg fun w hw => ?_
  rcases List.mem_append.mp hw with q | q
  · simp only [List.mem_cons, List.not_mem_nil, or_false] at q
    rcases q with rfl | rfl | rfl | rfl | rfl
    · exact h1
    · exact h2
    · exact h3
    · exact h4
    · exact h.2.1
  · exact yg_cons h.1 w q
/-- a private method is selected on any receiver of a class below -/
theorem y_selJ {C : String} {y z : MethodName} (hy : y.cls ≠ "java/lang/invoke/MethodHandle" ∧ y.cls ≠ "java/lang/invoke/VarHandle") (hz : z.cls = y.cls) (h1 : Cond.selects C z z ∈ lw_tbl) (h2 : Cond.privateMethod y ∈ lw_tbl) (h3 : Cond.instanceMethod y ∈ lw_tbl) {a : Array Value} {t : State} (hts : ∀ w ∈ lw_tbl, w.before a t = true) : (Cond.selects C y y).before a t = true := by
  obtain ⟨c, r, m, q1, -, q3, -, mk0, q5, q6⟩ := Cond.selects_spec (hts _ h1)
  obtain ⟨mk, methM, hnamed, hmethM, -, -⟩ := Cond.instanceMethod_spec (hts _ h3)
  have hfound : t.methodFound? y.cls y.name y.desc = some mk := State.methodFound?_of_named hnamed hy
  have hc1 := findClass_of_methodNamed q3
  have hc2 := findClass_of_methodNamed hnamed
  have hcls : mk.cls = m.cls := by rw [hz] at hc1; exact Option.some.inj (hc2.symm.trans hc1)
  have hsel : selectMethod {} t.vm c mk = .method mk := selectMethod_private hmethM (Cond.privateMethod_at (hts _ h2) mk methM hnamed hmethM)
  simp only [Cond.before, Cond.holds, Cond.value, q1, hfound, hnamed, hsel, hcls, q5]
  simp; exact q6
end YU
section XW
theorem xw_mem {D : va_G} {cl : List vw_C} {ws : va_W} {H : Heap} (h : va_P D cl ws H) {q : Nat × va_E} (hq : q ∈ ws) : va_at D cl q H := by
  obtain ⟨k, hk⟩ := List.getElem?_of_mem hq
  exact h k q hk
theorem xw_of {D : va_G} {cl : List vw_C} {ws : va_W} {H : Heap} (h : ∀ q, q ∈ ws → va_at D cl q H) : va_P D cl ws H := fun _ q hk => h q (List.mem_of_getElem? hk)
theorem xw_nd {A : Nat → Prop} {ws : va_W} (h : va_D A ws) : (ws.map Prod.fst).Nodup := by
  refine List.pairwise_iff_getElem.mpr fun i j hi hj hij e => ?_
  rw [List.length_map] at hi hj
  rw [List.getElem_map, List.getElem_map] at e
  have := h.1 i j _ _ (List.getElem?_eq_getElem hi) (List.getElem?_eq_getElem hj) e
  omega
theorem xw_dA {A : Nat → Prop} {ws : va_W} (h : va_D A ws) {q : Nat × va_E} (hq : q ∈ ws) : A q.1 := by
  obtain ⟨k, hk⟩ := List.getElem?_of_mem hq
  exact h.2 k q hk
theorem xw_d {A : Nat → Prop} {ws : va_W} (hn : (ws.map Prod.fst).Nodup) (hA : ∀ q, q ∈ ws → A q.1) : va_D A ws := by
  have hp := List.pairwise_iff_getElem.mp hn
  refine ⟨fun i j p q hi hj e => ?_, fun k q hk => hA q (List.mem_of_getElem? hk)⟩
  obtain ⟨hi', rfl⟩ := List.getElem?_eq_some_iff.mp hi
  obtain ⟨hj', rfl⟩ := List.getElem?_eq_some_iff.mp hj
  rcases Nat.lt_trichotomy i j with h | h | h
  · exact absurd (by rw [List.getElem_map, List.getElem_map]; exact e) (hp i j (by simpa using hi') (by simpa using hj') h)
  · exact h
  · exact absurd (by rw [List.getElem_map, List.getElem_map]; exact e.symm) (hp j i (by simpa using hj') (by simpa using hi') h)
theorem xw_pf {α : Type} {l l' : List (List α)} (h : l.Perm l') : l.flatten.Perm l'.flatten := by
  induction h with
  | nil => exact List.Perm.refl _
  | cons x _ ih => rw [List.flatten_cons, List.flatten_cons]; exact ih.append_left x
  | swap x y l =>
    rw [List.flatten_cons, List.flatten_cons, List.flatten_cons, List.flatten_cons, ← List.append_assoc, ← List.append_assoc]
    exact List.perm_append_comm.append_right _
  | trans _ _ a b => exact a.trans b
/-- the heap holds the blocks, and their cells are apart and in A -/
def XB (D : va_G) (A : Nat → Prop) (bs : List va_W) (H : Heap) : Prop := va_P D vwCl bs.flatten H ∧ va_D A bs.flatten
/-- fewer cells, in another order -/
theorem XB.sublist {D : va_G} {A : Nat → Prop} {bs b1 : List va_W} {H : Heap} (h : XB D A bs H) (hp : ∃ r, (bs.flatten).Perm (b1.flatten ++ r)) : XB D A b1 H := by
  obtain ⟨r, hf⟩ := hp
  have hn := ((hf.map Prod.fst).nodup_iff.mp (xw_nd h.2))
  rw [List.map_append] at hn
  exact ⟨xw_of fun q hq => xw_mem h.1 (hf.mem_iff.mpr (List.mem_append_left _ hq)), xw_d (List.nodup_append.mp hn).1 fun q hq => xw_dA h.2 (hf.mem_iff.mpr (List.mem_append_left _ hq))⟩
theorem XB.perm {D : va_G} {A : Nat → Prop} {bs b1 b2 : List va_W} {H : Heap} (h : XB D A bs H) (hp : bs.Perm (b1 ++ b2)) : XB D A b1 H := by
  have hf := xw_pf hp
  rw [List.flatten_append] at hf
  exact h.sublist ⟨_, hf⟩
theorem xw_range {α : Type} (bs : List α) : (List.range bs.length).filterMap (fun i => bs[i]?) = bs := by
  have h1 : (List.range bs.length).map (fun i => bs[i]?) = bs.map some := by
    apply List.ext_getElem?
    intro i
    rw [List.getElem?_map, List.getElem?_map]
    by_cases h : i < bs.length
    · rw [List.getElem?_range h]
      simp [List.getElem?_eq_getElem h]
    · rw [List.getElem?_eq_none (by simpa using Nat.le_of_not_lt h), List.getElem?_eq_none (Nat.le_of_not_lt h)]
      rfl
  have h2 : (List.range bs.length).filterMap (fun i => bs[i]?) = ((List.range bs.length).map (fun i => bs[i]?)).filterMap id := by
    rw [List.filterMap_map]; rfl
  rw [h2, h1, List.filterMap_map]
  exact List.filterMap_some
theorem xw_idx {bs b1 b2 : List va_W} (i1 i2 : List Nat) (hp : (i1 ++ i2).isPerm (List.range bs.length) = true) (h1 : i1.filterMap (fun i => bs[i]?) = b1) (h2 : i2.filterMap (fun i => bs[i]?) = b2) : bs.Perm (b1 ++ b2) := by
  have h := (List.isPerm_iff.mp hp).filterMap (fun i => bs[i]?)
  rw [xw_range, List.filterMap_append, h1, h2] at h
  exact h.symm
/-- a block's place in the flat list, and what a change there is -/
theorem xw_at {α : Type} : ∀ (bs : List (List α)) (b i : Nat) (k : List α) (x : α), bs[b]? = some k → k[i]? = some x → ∃ q : Nat, bs.flatten[q]? = some x ∧ ∀ y, bs.flatten.set q y = (bs.set b (k.set i y)).flatten := by
  intro bs
  induction bs with
  | nil => intro b i k x h; simp at h
  | cons h0 t ih =>
    intro b i k x hb hi
    cases b with
    | zero =>
      rw [List.getElem?_cons_zero] at hb
      cases hb
      have hl := (List.getElem?_eq_some_iff.mp hi).1
      refine ⟨i, by rw [List.flatten_cons, List.getElem?_append_left hl]; exact hi, fun y => ?_⟩
      rw [List.set_cons_zero, List.flatten_cons, List.flatten_cons, List.set_append_left _ _ hl]
    | succ b =>
      rw [List.getElem?_cons_succ] at hb
      obtain ⟨q, h1, h2⟩ := ih b i k x hb hi
      refine ⟨h0.length + q, by rw [List.flatten_cons, List.getElem?_append_right (Nat.le_add_right _ _), Nat.add_sub_cancel_left]; exact h1, fun y => ?_⟩
      rw [List.set_cons_succ, List.flatten_cons, List.flatten_cons, List.set_append_right _ _ (Nat.le_add_right _ _), Nat.add_sub_cancel_left, h2]
abbrev xn_tys (cy : Nat → ClassId) : List (ClassId × FieldType) := [(cy 0, .byte), (cy 1, .int), (cy 2, .boolean), (cy 3, .array .int), (cy 4, .array .boolean)]
/-- what a method needs to know of the machine's tables, beside the words -/
def YK (D : va_G) (cy : Nat → ClassId) (U : State) : Prop := va_K D vwCl (xn_tys cy) U ∧ (∀ w, w ∈ xn_nw → va_Nw w U) ∧ (∀ q : String × Nat × String, q ∈ xn_str → ∃ a, vk_R q.1 q.2.1 q.2.2 a U) ∧ va_AOA .int U ∧ va_AOA .boolean U ∧ (∀ q ∈ xn_nc, va_Nc q.1 q.2 U) ∧ ∀ w ∈ xn_sel, va_Nw w U
theorem YK.warm {D : va_G} {cy : Nat → ClassId} {s U : State} (h : YK D cy s) (hW : s.WarmedH U.vm) : YK D cy U := ⟨va_K.moved hW.alike h.1, fun w hw => xn_nw_warm w hw hW (h.2.1 w hw), fun q hq => by
  obtain ⟨a, ha⟩ := h.2.2.1 q hq
  exact ⟨a, vk_R.warm hW ha⟩, h.2.2.2.1.moved hW.alike, h.2.2.2.2.1.moved hW.alike, fun q hq => (h.2.2.2.2.2.1 q hq).moved hW.alike, fun w hw => xn_sel_warm w hw hW (h.2.2.2.2.2.2 w hw)⟩
theorem YK.same {D : va_G} {cy : Nat → ClassId} {s U : State} (h : YK D cy s) (hv : s.vm = U.vm) : YK D cy U := ⟨va_K.moved (by rw [hv]; exact Vm.Alike.refl U.vm) h.1, fun w hw => va_Nw.same (xn_nw_tab w hw) hv (h.2.1 w hw), fun q hq => by
  obtain ⟨a, ha⟩ := h.2.2.1 q hq
  exact ⟨a, vk_R.same hv.symm ha⟩, h.2.2.2.1.moved (by rw [hv]; exact Vm.Alike.refl U.vm), h.2.2.2.2.1.moved (by rw [hv]; exact Vm.Alike.refl U.vm), fun q hq => (h.2.2.2.2.2.1 q hq).moved (by rw [hv]; exact Vm.Alike.refl U.vm), fun w hw => va_tabs (xn_sel_tab w hw) hv (h.2.2.2.2.2.2 w hw)⟩
/-- .. and of statics -/
def YZ (A : Nat → Prop) (U : State) (H : Heap) : Prop := vx_Zq Bundle.tN "UNASSIGNED_STACK" Bundle.steD A U H ∧ vx_Zq Bundle.tN "SUPPRESSED_SENTINEL" Bundle.listD A U H ∧ va_Z "java/lang/String" "COMPACT_STRINGS" "Z" (.int 1) A U H
theorem YZ.moved {A : Nat → Prop} {u U : State} {H : Heap} (hvm : u.vm.Alike U.vm) (h : YZ A u H) : YZ A U H := ⟨h.1.moved hvm, h.2.1.moved hvm, h.2.2.moved hvm⟩
theorem YZ.kept {A : Nat → Prop} {U : State} {H H1 : Heap} (h : YZ A U H) (hq : ∀ a : Nat, a < H.size → ¬ A a → H1[a]? = H[a]?) : YZ A U H1 := ⟨h.1.kept hq, h.2.1.kept hq, h.2.2.kept hq⟩
theorem YZ.narrow {A B : Nat → Prop} {U : State} {H : Heap} (h : YZ A U H) (hAB : ∀ q, B q → A q) : YZ B U H := ⟨h.1.narrow hAB, h.2.1.narrow hAB, h.2.2.narrow hAB⟩
def YC (p : Program) (s : State) (m : MethodId) (args : Array Value) (c : Code) (cc : ByteArray) (own : String) (D : va_G) (cy : Nat → ClassId) (nL : Nat) (A : Nat → Prop) (H0 : Heap) : Prop :=
  p.tables.exec = Jvm.exec ∧ c.code = cc ∧ c.maxLocals = nL ∧ s.vm.findClass own = some m.cls ∧ (∀ w ∈ yU, w.before args s = true) ∧ YK D cy s ∧ (∀ q, H0.size ≤ q → A q) ∧ YZ A s H0
def X (p : Program) (l : Launch) (e : Env) (R : Room) (s : State) (m : MethodId) (args : Array Value) (below : List Frame) (meth : Method) (c : Code) (D : va_G) (A : Nat → Prop) (H0 : Heap) (nL : Nat) (Q : State → Prop) (bs : List va_W) (cells slots : Nat) (lv : List (Nat × Value)) (pc : Nat) (st : List Value) : Prop :=
  ∀ (H : Heap) (locs : List Loc) (ls : Array Slot), XB D A bs H → va_S A H0 H locs → lv_has ls nL lv → W p l e R s m args below meth c H locs cells slots Q (F0 m pc ls st)
theorem xw_keep {D : va_G} {b1 b2 u : List va_W} {A : Nat → Prop} {H H1 : Heap} (hB : XB D A (b1 ++ b2) H) (hk : ∀ q : Nat, q < H.size → ¬ va_A b1.flatten H.size q → H1[q]? = H[q]?) (hF : ∀ q, va_A b1.flatten H.size q → A q) (hP1 : va_P D vwCl u.flatten H1) (hD1 : va_D (va_A b1.flatten H.size) u.flatten) : XB D A (u ++ b2) H1 := by
  obtain ⟨hP, hD⟩ := hB
  rw [List.flatten_append] at hP hD
  have hn := xw_nd hD
  rw [List.map_append] at hn
  obtain ⟨n1, n2, n3⟩ := List.nodup_append.mp hn
  have far : ∀ q, q ∈ b2.flatten → q.1 < H.size ∧ ¬ va_A b1.flatten H.size q.1 := by
    intro q hq
    have hl := (xw_mem hP (List.mem_append_right _ hq)).lt
    refine ⟨hl, fun h => ?_⟩
    rcases h with ⟨k, e, h⟩ | h
    · exact n3 q.1 (List.mem_map.mpr ⟨(q.1, e), List.mem_of_getElem? h, rfl⟩) q.1 (List.mem_map.mpr ⟨q, hq, rfl⟩) rfl
    · omega
  refine ⟨?_, ?_⟩
  · rw [List.flatten_append]
    refine xw_of fun q hq => ?_
    rcases List.mem_append.mp hq with h | h
    · exact xw_mem hP1 h
    · exact (xw_mem hP (List.mem_append_right _ h)).kept (hk q.1 (far q h).1 (far q h).2)
  · rw [List.flatten_append]
    refine xw_d ?_ fun q hq => ?_
    · rw [List.map_append]
      refine List.nodup_append.mpr ⟨xw_nd hD1, n2, fun a ha b hb e => ?_⟩
      subst e
      obtain ⟨x, hx, rfl⟩ := List.mem_map.mp ha
      obtain ⟨z, hz, ez⟩ := List.mem_map.mp hb
      exact (far z hz).2 (by rw [ez]; exact xw_dA hD1 hx)
    · rcases List.mem_append.mp hq with h | h
      · exact hF _ (xw_dA hD1 h)
      · exact xw_dA hD (List.mem_append_right _ h)
theorem xw_free {D : va_G} {b1 b2 : List va_W} {A : Nat → Prop} {H0 H : Heap} {locs : List Loc} (hB : XB D A (b1 ++ b2) H) (hS : va_S A H0 H locs) (hA : ∀ q, H0.size ≤ q → A q) : ∀ q, va_A b1.flatten H.size q → A q := by
  intro q h
  rcases h with ⟨k, e, h⟩ | h
  · exact xw_dA hB.2 (q := (q, e)) (by rw [List.flatten_append]; exact List.mem_append_left _ (List.mem_of_getElem? h))
  · exact hA q (Nat.le_trans hS.1 h)
theorem XB.eqv {D : va_G} {A : Nat → Prop} {bs b' : List va_W} {H : Heap} (h : XB D A bs H) (hp : bs.Perm b') : XB D A b' H := by
  have := h.perm (b1 := b') (b2 := []) (by rw [List.append_nil]; exact hp)
  exact this
/-! contracts -/
def yPre (D : va_G) (cy : Nat → ClassId) (av : List Value) (bs : List va_W) (sz : Nat) : Array Value → State → Prop := va_Pc av (fun U => U.heap.size = sz ∧ va_P D vwCl bs.flatten U.heap ∧ YK D cy U ∧ va_D (fun _ => True) bs.flatten ∧ YZ (va_A bs.flatten sz) U U.heap)
def yB (D : va_G) (bs : List va_W) (sz : Nat) (u : List va_W) (t : State) : Prop := va_P D vwCl u.flatten t.heap ∧ va_D (va_A bs.flatten sz) u.flatten
def yQ (D : va_G) (bs : List va_W) (sz : Nat) (post : Option Value → List va_W → Prop) : Array Value → State → Outcome → State → Prop := fun _ st o t => (∃ (v : Option Value) (u : List va_W), o = .returned v ∧ post v u ∧ yB D bs sz u t) ∧ va_F (va_A bs.flatten sz) st t
def yXC (D : va_G) (bs : List va_W) (sz : Nat) (px : String → List va_W → Prop) : String → State → State → Prop := vx_X (fun u : String × List va_W => px u.1 u.2) (fun E u t => E = u.1 ∧ yB D bs sz u.2 t) (va_A bs.flatten sz)
/-- a method that returns -/
def YM (l : Launch) (D : va_G) (cy : Nat → ClassId) (y : MethodName) (hd : Cond) (d mc ms : Nat) (av : List Value) (bs : List va_W) (post : Option Value → List va_W → Prop) : Prop :=
  ∀ sz : Nat, Met l y (hd :: yU) (yR d mc ms) (yPre D cy av bs sz) (yQ D bs sz post) mc ms (va_A bs.flatten sz)
/-- a method that returns, or throws -/
def YX (l : Launch) (D : va_G) (cy : Nat → ClassId) (y : MethodName) (hd : Cond) (d mc ms : Nat) (av : List Value) (bs : List va_W) (post : Option Value → List va_W → Prop) (px : String → List va_W → Prop) : Prop :=
  ∀ sz : Nat, vx_Met l y (hd :: yU) (yR d mc ms) (yPre D cy av bs sz) (yQ D bs sz post) (yXC D bs sz px) mc ms (va_A bs.flatten sz)
theorem yblind {D : va_G} {cy : Nat → ClassId} {av : List Value} {bs : List va_W} {sz : Nat} : FrameBlind (yPre D cy av bs sz) := fun a U g mk q => by
  obtain ⟨q0, q1, qP, qK, qD, qZ⟩ := q
  exact ⟨q0, q1, qP, qK.same rfl, qD, YZ.moved (u := U) (U := U.calling g mk a) (Vm.Alike.refl U.vm) qZ⟩
theorem yhd {hd : Cond} {args : Array Value} {s : State} {rm : Room} (h : (headSpec (hd :: yU) rm).pre.before args s = true) : ∀ w ∈ yU, w.before args s = true := fun w hw => atoms_spec (ws := hd :: yU) h w (List.mem_cons_of_mem _ hw)
end XW
section XR
variable {p : Program} {l : Launch} {e : Env} {R : Room} {s : State} {m : MethodId} {args : Array Value} {below : List Frame} {meth : Method} {c : Code} {cc : ByteArray} {own : String} {D : va_G} {cy : Nat → ClassId} {A : Nat → Prop} {H0 : Heap} {nL : Nat} {Q : State → Prop} {bs : List va_W} {cells slots : Nat} {lv : List (Nat × Value)} {pc n : Nat} {st : List Value}
theorem xr_iadd (C : YC p s m args c cc own D cy nL A H0) {a b : Int32} (d : decode cc pc = .ok (.iadd, 1)) (hn : pc + 1 = n) (k : X p l e R s m args below meth c D A H0 nL Q bs cells slots lv n (.int (a + b) :: st)) : X p l e R s m args below meth c D A H0 nL Q bs cells slots lv pc (.int b :: .int a :: st) := fun H locs ls hB hS hl => lv_iadd C.1 C.2.1 d (by rw [hn]; exact k H locs ls hB hS hl)
theorem xr_isub (C : YC p s m args c cc own D cy nL A H0) {a b : Int32} (d : decode cc pc = .ok (.isub, 1)) (hn : pc + 1 = n) (k : X p l e R s m args below meth c D A H0 nL Q bs cells slots lv n (.int (a - b) :: st)) : X p l e R s m args below meth c D A H0 nL Q bs cells slots lv pc (.int b :: .int a :: st) := fun H locs ls hB hS hl => lv_isub C.1 C.2.1 d (by rw [hn]; exact k H locs ls hB hS hl)
theorem xr_imul (C : YC p s m args c cc own D cy nL A H0) {a b : Int32} (d : decode cc pc = .ok (.imul, 1)) (hn : pc + 1 = n) (k : X p l e R s m args below meth c D A H0 nL Q bs cells slots lv n (.int (a * b) :: st)) : X p l e R s m args below meth c D A H0 nL Q bs cells slots lv pc (.int b :: .int a :: st) := fun H locs ls hB hS hl => lv_imul C.1 C.2.1 d (by rw [hn]; exact k H locs ls hB hS hl)
theorem xr_iand (C : YC p s m args c cc own D cy nL A H0) {a b : Int32} (d : decode cc pc = .ok (.iand, 1)) (hn : pc + 1 = n) (k : X p l e R s m args below meth c D A H0 nL Q bs cells slots lv n (.int (a &&& b) :: st)) : X p l e R s m args below meth c D A H0 nL Q bs cells slots lv pc (.int b :: .int a :: st) := fun H locs ls hB hS hl => lv_iand C.1 C.2.1 d (by rw [hn]; exact k H locs ls hB hS hl)
theorem xr_ior (C : YC p s m args c cc own D cy nL A H0) {a b : Int32} (d : decode cc pc = .ok (.ior, 1)) (hn : pc + 1 = n) (k : X p l e R s m args below meth c D A H0 nL Q bs cells slots lv n (.int (a ||| b) :: st)) : X p l e R s m args below meth c D A H0 nL Q bs cells slots lv pc (.int b :: .int a :: st) := fun H locs ls hB hS hl => lv_ior C.1 C.2.1 d (by rw [hn]; exact k H locs ls hB hS hl)
theorem xr_ixor (C : YC p s m args c cc own D cy nL A H0) {a b : Int32} (d : decode cc pc = .ok (.ixor, 1)) (hn : pc + 1 = n) (k : X p l e R s m args below meth c D A H0 nL Q bs cells slots lv n (.int (a ^^^ b) :: st)) : X p l e R s m args below meth c D A H0 nL Q bs cells slots lv pc (.int b :: .int a :: st) := fun H locs ls hB hS hl => lv_ixor C.1 C.2.1 d (by rw [hn]; exact k H locs ls hB hS hl)
theorem xr_ishl (C : YC p s m args c cc own D cy nL A H0) {a b : Int32} (d : decode cc pc = .ok (.ishl, 1)) (hn : pc + 1 = n) (k : X p l e R s m args below meth c D A H0 nL Q bs cells slots lv n (.int (a <<< (b &&& 31)) :: st)) : X p l e R s m args below meth c D A H0 nL Q bs cells slots lv pc (.int b :: .int a :: st) := fun H locs ls hB hS hl => lv_ishl C.1 C.2.1 d (by rw [hn]; exact k H locs ls hB hS hl)
theorem xr_ishr (C : YC p s m args c cc own D cy nL A H0) {a b : Int32} (d : decode cc pc = .ok (.ishr, 1)) (hn : pc + 1 = n) (k : X p l e R s m args below meth c D A H0 nL Q bs cells slots lv n (.int (a >>> (b &&& 31)) :: st)) : X p l e R s m args below meth c D A H0 nL Q bs cells slots lv pc (.int b :: .int a :: st) := fun H locs ls hB hS hl => lv_ishr C.1 C.2.1 d (by rw [hn]; exact k H locs ls hB hS hl)
theorem xr_ladd (C : YC p s m args c cc own D cy nL A H0) {a b : Int64} (d : decode cc pc = .ok (.ladd, 1)) (hn : pc + 1 = n) (k : X p l e R s m args below meth c D A H0 nL Q bs cells slots lv n (.long (a + b) :: st)) : X p l e R s m args below meth c D A H0 nL Q bs cells slots lv pc (.long b :: .long a :: st) := fun H locs ls hB hS hl => lv_ladd C.1 C.2.1 d (by rw [hn]; exact k H locs ls hB hS hl)
theorem xr_lsub (C : YC p s m args c cc own D cy nL A H0) {a b : Int64} (d : decode cc pc = .ok (.lsub, 1)) (hn : pc + 1 = n) (k : X p l e R s m args below meth c D A H0 nL Q bs cells slots lv n (.long (a - b) :: st)) : X p l e R s m args below meth c D A H0 nL Q bs cells slots lv pc (.long b :: .long a :: st) := fun H locs ls hB hS hl => lv_lsub C.1 C.2.1 d (by rw [hn]; exact k H locs ls hB hS hl)
theorem xr_lmul (C : YC p s m args c cc own D cy nL A H0) {a b : Int64} (d : decode cc pc = .ok (.lmul, 1)) (hn : pc + 1 = n) (k : X p l e R s m args below meth c D A H0 nL Q bs cells slots lv n (.long (a * b) :: st)) : X p l e R s m args below meth c D A H0 nL Q bs cells slots lv pc (.long b :: .long a :: st) := fun H locs ls hB hS hl => lv_lmul C.1 C.2.1 d (by rw [hn]; exact k H locs ls hB hS hl)
theorem xr_idiv (C : YC p s m args c cc own D cy nL A H0) {a b : Int32} (d : decode cc pc = .ok (.idiv, 1)) (hz : ¬ b = 0) (hn : pc + 1 = n) (k : X p l e R s m args below meth c D A H0 nL Q bs cells slots lv n (.int (a / b) :: st)) : X p l e R s m args below meth c D A H0 nL Q bs cells slots lv pc (.int b :: .int a :: st) := fun H locs ls hB hS hl => lv_idiv C.1 C.2.1 d hz (by rw [hn]; exact k H locs ls hB hS hl)
theorem xr_irem (C : YC p s m args c cc own D cy nL A H0) {a b : Int32} (d : decode cc pc = .ok (.irem, 1)) (hz : ¬ b = 0) (hn : pc + 1 = n) (k : X p l e R s m args below meth c D A H0 nL Q bs cells slots lv n (.int (a - a / b * b) :: st)) : X p l e R s m args below meth c D A H0 nL Q bs cells slots lv pc (.int b :: .int a :: st) := fun H locs ls hB hS hl => lv_irem C.1 C.2.1 d hz (by rw [hn]; exact k H locs ls hB hS hl)
theorem xr_iushr (C : YC p s m args c cc own D cy nL A H0) {a b : Int32} (d : decode cc pc = .ok (.iushr, 1)) (hn : pc + 1 = n) (k : X p l e R s m args below meth c D A H0 nL Q bs cells slots lv n (.int ((a.toUInt32 >>> (b.toUInt32 &&& Int32.toUInt32 31)).toInt32) :: st)) : X p l e R s m args below meth c D A H0 nL Q bs cells slots lv pc (.int b :: .int a :: st) := fun H locs ls hB hS hl => lv_iushr C.1 C.2.1 d rfl (by rw [hn]; exact k H locs ls hB hS hl)
theorem xr_ineg (C : YC p s m args c cc own D cy nL A H0) {a : Int32} (d : decode cc pc = .ok (.ineg, 1)) (hn : pc + 1 = n) (k : X p l e R s m args below meth c D A H0 nL Q bs cells slots lv n (.int (-a) :: st)) : X p l e R s m args below meth c D A H0 nL Q bs cells slots lv pc (.int a :: st) := fun H locs ls hB hS hl => lv_ineg C.1 C.2.1 d (by rw [hn]; exact k H locs ls hB hS hl)
theorem xr_i2l (C : YC p s m args c cc own D cy nL A H0) {a : Int32} (d : decode cc pc = .ok (.i2l, 1)) (hn : pc + 1 = n) (k : X p l e R s m args below meth c D A H0 nL Q bs cells slots lv n (.long (a.toInt64) :: st)) : X p l e R s m args below meth c D A H0 nL Q bs cells slots lv pc (.int a :: st) := fun H locs ls hB hS hl => lv_i2l C.1 C.2.1 d rfl (by rw [hn]; exact k H locs ls hB hS hl)
theorem xr_i2c (C : YC p s m args c cc own D cy nL A H0) {a : Int32} (d : decode cc pc = .ok (.i2c, 1)) (hn : pc + 1 = n) (k : X p l e R s m args below meth c D A H0 nL Q bs cells slots lv n (.int ((a.toUInt32 % 65536).toInt32) :: st)) : X p l e R s m args below meth c D A H0 nL Q bs cells slots lv pc (.int a :: st) := fun H locs ls hB hS hl => lv_i2c C.1 C.2.1 d rfl (by rw [hn]; exact k H locs ls hB hS hl)
theorem xr_i2b (C : YC p s m args c cc own D cy nL A H0) {a : Int32} (d : decode cc pc = .ok (.i2b, 1)) (hn : pc + 1 = n) (k : X p l e R s m args below meth c D A H0 nL Q bs cells slots lv n (.int a.toInt8.toInt32 :: st)) : X p l e R s m args below meth c D A H0 nL Q bs cells slots lv pc (.int a :: st) := fun H locs ls hB hS hl => lv_i2b C.1 C.2.1 d rfl (by rw [hn]; exact k H locs ls hB hS hl)
theorem xr_iconst (C : YC p s m args c cc own D cy nL A H0) {z : Int} {v : Int32} (d : decode cc pc = .ok (.iconst z, 1)) (hv : Int32.ofInt z = v) (hn : pc + 1 = n) (k : X p l e R s m args below meth c D A H0 nL Q bs cells slots lv n (.int v :: st)) : X p l e R s m args below meth c D A H0 nL Q bs cells slots lv pc st := fun H locs ls hB hS hl => lv_iconst C.1 C.2.1 d hv (by rw [hn]; exact k H locs ls hB hS hl)
theorem xr_bipush (C : YC p s m args c cc own D cy nL A H0) {z : Int} {v : Int32} (d : decode cc pc = .ok (.bipush z, 2)) (hv : (Int8.ofInt z).toInt32 = v) (hn : pc + 2 = n) (k : X p l e R s m args below meth c D A H0 nL Q bs cells slots lv n (.int v :: st)) : X p l e R s m args below meth c D A H0 nL Q bs cells slots lv pc st := fun H locs ls hB hS hl => lv_bipush C.1 C.2.1 d hv (by rw [hn]; exact k H locs ls hB hS hl)
theorem xr_sipush (C : YC p s m args c cc own D cy nL A H0) {z : Int} {v : Int32} (d : decode cc pc = .ok (.sipush z, 3)) (hv : (Int16.ofInt z).toInt32 = v) (hn : pc + 3 = n) (k : X p l e R s m args below meth c D A H0 nL Q bs cells slots lv n (.int v :: st)) : X p l e R s m args below meth c D A H0 nL Q bs cells slots lv pc st := fun H locs ls hB hS hl => lv_sipush C.1 C.2.1 d hv (by rw [hn]; exact k H locs ls hB hS hl)
theorem xr_lconst (C : YC p s m args c cc own D cy nL A H0) {z : Fin 2} {v : Int64} (d : decode cc pc = .ok (.lconst z, 1)) (hv : Int64.ofNat (z : Nat) = v) (hn : pc + 1 = n) (k : X p l e R s m args below meth c D A H0 nL Q bs cells slots lv n (.long v :: st)) : X p l e R s m args below meth c D A H0 nL Q bs cells slots lv pc st := fun H locs ls hB hS hl => lv_lconst C.1 C.2.1 d hv (by rw [hn]; exact k H locs ls hB hS hl)
theorem xr_null (C : YC p s m args c cc own D cy nL A H0) (d : decode cc pc = .ok (.aconst_null, 1)) (hn : pc + 1 = n) (k : X p l e R s m args below meth c D A H0 nL Q bs cells slots lv n (.null :: st)) : X p l e R s m args below meth c D A H0 nL Q bs cells slots lv pc st := fun H locs ls hB hS hl => lv_null C.1 C.2.1 d (by rw [hn]; exact k H locs ls hB hS hl)
theorem xr_ldc (C : YC p s m args c cc own D cy nL A H0) {index : Nat} {v : Int32} (hc : (Jvm.Cond.constant own index v) ∈ yU) (d : decode cc pc = .ok (.ldc index, 2)) (hn : pc + 2 = n) (k : X p l e R s m args below meth c D A H0 nL Q bs cells slots lv n (.int v :: st)) : X p l e R s m args below meth c D A H0 nL Q bs cells slots lv pc st := fun H locs ls hB hS hl => lv_ldc C.1 C.2.1 C.2.2.2.1 (C.2.2.2.2.1 _ hc) d (by rw [hn]; exact k H locs ls hB hS hl)
theorem xr_ldcw (C : YC p s m args c cc own D cy nL A H0) {index : Nat} {v : Int32} (hc : (Jvm.Cond.constant own index v) ∈ yU) (d : decode cc pc = .ok (.ldc_w index, 3)) (hn : pc + 3 = n) (k : X p l e R s m args below meth c D A H0 nL Q bs cells slots lv n (.int v :: st)) : X p l e R s m args below meth c D A H0 nL Q bs cells slots lv pc st := fun H locs ls hB hS hl => lv_ldcw C.1 C.2.1 C.2.2.2.1 (C.2.2.2.2.1 _ hc) d (by rw [hn]; exact k H locs ls hB hS hl)
theorem xr_ldc2 (C : YC p s m args c cc own D cy nL A H0) {index : Nat} {v : Int64} (hc : (Jvm.Cond.constantLong own index v) ∈ yU) (d : decode cc pc = .ok (.ldc2_w index, 3)) (hn : pc + 3 = n) (k : X p l e R s m args below meth c D A H0 nL Q bs cells slots lv n (.long v :: st)) : X p l e R s m args below meth c D A H0 nL Q bs cells slots lv pc st := fun H locs ls hB hS hl => lv_ldc2 C.1 C.2.1 C.2.2.2.1 (C.2.2.2.2.1 _ hc) d (by rw [hn]; exact k H locs ls hB hS hl)
theorem xr_iload_n (C : YC p s m args c cc own D cy nL A H0) {kk : Fin 4} {j : Nat} {x : Int32} (d : decode cc pc = .ok (.iload_n kk, 1)) (hv : lv[j]? = some ((kk : Nat), .int x)) (hn : pc + 1 = n) (k : X p l e R s m args below meth c D A H0 nL Q bs cells slots lv n (.int x :: st)) : X p l e R s m args below meth c D A H0 nL Q bs cells slots lv pc st := fun H locs ls hB hS hl => lv_iload_n C.1 C.2.1 d rfl (lv_at hl j hv) (by rw [hn]; exact k H locs ls hB hS hl)
theorem xr_iload (C : YC p s m args c cc own D cy nL A H0) {i j : Nat} {x : Int32} (d : decode cc pc = .ok (.iload i, 2)) (hv : lv[j]? = some (i, .int x)) (hn : pc + 2 = n) (k : X p l e R s m args below meth c D A H0 nL Q bs cells slots lv n (.int x :: st)) : X p l e R s m args below meth c D A H0 nL Q bs cells slots lv pc st := fun H locs ls hB hS hl => lv_iload C.1 C.2.1 d (lv_at hl j hv) (by rw [hn]; exact k H locs ls hB hS hl)
theorem xr_istore_n (C : YC p s m args c cc own D cy nL A H0) {kk : Fin 4} {x : Int32} (lv' : List (Nat × Value)) (d : decode cc pc = .ok (.istore_n kk, 1)) (hi : (kk : Nat) < nL) (hv : ((kk : Nat), Value.int x) :: lv.filter (fun q => !(q.1 == (kk : Nat)) && !(q.1 + 1 == (kk : Nat) && q.2.category == 2)) = lv') (hn : pc + 1 = n) (k : X p l e R s m args below meth c D A H0 nL Q bs cells slots lv' n st) : X p l e R s m args below meth c D A H0 nL Q bs cells slots lv pc (.int x :: st) := fun H locs ls hB hS hl => lv_istore_n C.1 C.2.1 d rfl hl hi hv (fun ls' hl' => by rw [hn]; exact k H locs ls' hB hS hl')
theorem xr_istore (C : YC p s m args c cc own D cy nL A H0) {i : Nat} {x : Int32} (lv' : List (Nat × Value)) (d : decode cc pc = .ok (.istore i, 2)) (hi : i < nL) (hv : (i, Value.int x) :: lv.filter (fun q => !(q.1 == i) && !(q.1 + 1 == i && q.2.category == 2)) = lv') (hn : pc + 2 = n) (k : X p l e R s m args below meth c D A H0 nL Q bs cells slots lv' n st) : X p l e R s m args below meth c D A H0 nL Q bs cells slots lv pc (.int x :: st) := fun H locs ls hB hS hl => lv_istore C.1 C.2.1 d hl hi hv (fun ls' hl' => by rw [hn]; exact k H locs ls' hB hS hl')
theorem xr_lload_n (C : YC p s m args c cc own D cy nL A H0) {kk : Fin 4} {j : Nat} {x : Int64} (d : decode cc pc = .ok (.lload_n kk, 1)) (hv : lv[j]? = some ((kk : Nat), .long x)) (hn : pc + 1 = n) (k : X p l e R s m args below meth c D A H0 nL Q bs cells slots lv n (.long x :: st)) : X p l e R s m args below meth c D A H0 nL Q bs cells slots lv pc st := fun H locs ls hB hS hl => lv_lload_n C.1 C.2.1 d rfl (lv_at hl j hv) (by rw [hn]; exact k H locs ls hB hS hl)
theorem xr_lload (C : YC p s m args c cc own D cy nL A H0) {i j : Nat} {x : Int64} (d : decode cc pc = .ok (.lload i, 2)) (hv : lv[j]? = some (i, .long x)) (hn : pc + 2 = n) (k : X p l e R s m args below meth c D A H0 nL Q bs cells slots lv n (.long x :: st)) : X p l e R s m args below meth c D A H0 nL Q bs cells slots lv pc st := fun H locs ls hB hS hl => lv_lload C.1 C.2.1 d (lv_at hl j hv) (by rw [hn]; exact k H locs ls hB hS hl)
theorem xr_lstore_n (C : YC p s m args c cc own D cy nL A H0) {kk : Fin 4} {x : Int64} (lv' : List (Nat × Value)) (d : decode cc pc = .ok (.lstore_n kk, 1)) (hi : (kk : Nat) + 1 < nL) (hv : ((kk : Nat), Value.long x) :: lv.filter (fun q => !(q.1 == (kk : Nat)) && (!(q.1 == (kk : Nat) + 1) && !(q.1 + 1 == (kk : Nat) && q.2.category == 2))) = lv') (hn : pc + 1 = n) (k : X p l e R s m args below meth c D A H0 nL Q bs cells slots lv' n st) : X p l e R s m args below meth c D A H0 nL Q bs cells slots lv pc (.long x :: st) := fun H locs ls hB hS hl => lv_lstore_n C.1 C.2.1 d rfl hl hi hv (fun ls' hl' => by rw [hn]; exact k H locs ls' hB hS hl')
theorem xr_lstore (C : YC p s m args c cc own D cy nL A H0) {i : Nat} {x : Int64} (lv' : List (Nat × Value)) (d : decode cc pc = .ok (.lstore i, 2)) (hi : i + 1 < nL) (hv : (i, Value.long x) :: lv.filter (fun q => !(q.1 == i) && (!(q.1 == i + 1) && !(q.1 + 1 == i && q.2.category == 2))) = lv') (hn : pc + 2 = n) (k : X p l e R s m args below meth c D A H0 nL Q bs cells slots lv' n st) : X p l e R s m args below meth c D A H0 nL Q bs cells slots lv pc (.long x :: st) := fun H locs ls hB hS hl => lv_lstore C.1 C.2.1 d hl hi hv (fun ls' hl' => by rw [hn]; exact k H locs ls' hB hS hl')
theorem xr_aload_n (C : YC p s m args c cc own D cy nL A H0) {kk : Fin 4} {j : Nat} {x : Nat} (d : decode cc pc = .ok (.aload_n kk, 1)) (hv : lv[j]? = some ((kk : Nat), .ref x)) (hn : pc + 1 = n) (k : X p l e R s m args below meth c D A H0 nL Q bs cells slots lv n (.ref x :: st)) : X p l e R s m args below meth c D A H0 nL Q bs cells slots lv pc st := fun H locs ls hB hS hl => lv_aload_n C.1 C.2.1 d rfl (lv_at hl j hv) (by rw [hn]; exact k H locs ls hB hS hl)
theorem xr_aload (C : YC p s m args c cc own D cy nL A H0) {i j : Nat} {x : Nat} (d : decode cc pc = .ok (.aload i, 2)) (hv : lv[j]? = some (i, .ref x)) (hn : pc + 2 = n) (k : X p l e R s m args below meth c D A H0 nL Q bs cells slots lv n (.ref x :: st)) : X p l e R s m args below meth c D A H0 nL Q bs cells slots lv pc st := fun H locs ls hB hS hl => lv_aload C.1 C.2.1 d (lv_at hl j hv) (by rw [hn]; exact k H locs ls hB hS hl)
theorem xr_astore_n (C : YC p s m args c cc own D cy nL A H0) {kk : Fin 4} {x : Nat} (lv' : List (Nat × Value)) (d : decode cc pc = .ok (.astore_n kk, 1)) (hi : (kk : Nat) < nL) (hv : ((kk : Nat), Value.ref x) :: lv.filter (fun q => !(q.1 == (kk : Nat)) && !(q.1 + 1 == (kk : Nat) && q.2.category == 2)) = lv') (hn : pc + 1 = n) (k : X p l e R s m args below meth c D A H0 nL Q bs cells slots lv' n st) : X p l e R s m args below meth c D A H0 nL Q bs cells slots lv pc (.ref x :: st) := fun H locs ls hB hS hl => lv_astore_n C.1 C.2.1 d rfl hl hi hv (fun ls' hl' => by rw [hn]; exact k H locs ls' hB hS hl')
theorem xr_astore (C : YC p s m args c cc own D cy nL A H0) {i : Nat} {x : Nat} (lv' : List (Nat × Value)) (d : decode cc pc = .ok (.astore i, 2)) (hi : i < nL) (hv : (i, Value.ref x) :: lv.filter (fun q => !(q.1 == i) && !(q.1 + 1 == i && q.2.category == 2)) = lv') (hn : pc + 2 = n) (k : X p l e R s m args below meth c D A H0 nL Q bs cells slots lv' n st) : X p l e R s m args below meth c D A H0 nL Q bs cells slots lv pc (.ref x :: st) := fun H locs ls hB hS hl => lv_astore C.1 C.2.1 d hl hi hv (fun ls' hl' => by rw [hn]; exact k H locs ls' hB hS hl')
theorem xr_iinc (C : YC p s m args c cc own D cy nL A H0) {i j : Nat} {z : Int} {x v : Int32} (lv' : List (Nat × Value)) (d : decode cc pc = .ok (.iinc i z, 3)) (hj : lv[j]? = some (i, .int x)) (hx : x + Int32.ofInt z = v) (hi : i < nL) (hv : (i, Value.int v) :: lv.filter (fun q => !(q.1 == i) && !(q.1 + 1 == i && q.2.category == 2)) = lv') (hn : pc + 3 = n) (k : X p l e R s m args below meth c D A H0 nL Q bs cells slots lv' n st) : X p l e R s m args below meth c D A H0 nL Q bs cells slots lv pc st := fun H locs ls hB hS hl => lv_iinc C.1 C.2.1 d hl hj hx hi hv (fun ls' hl' => by rw [hn]; exact k H locs ls' hB hS hl')
theorem xr_dup (C : YC p s m args c cc own D cy nL A H0) {va : Value} (d : decode cc pc = .ok (.dup, 1)) (hc : va.category = 1) (hn : pc + 1 = n) (k : X p l e R s m args below meth c D A H0 nL Q bs cells slots lv n (va :: va :: st)) : X p l e R s m args below meth c D A H0 nL Q bs cells slots lv pc (va :: st) := fun H locs ls hB hS hl => lv_dup C.1 C.2.1 d hc (by rw [hn]; exact k H locs ls hB hS hl)
theorem xr_pop (C : YC p s m args c cc own D cy nL A H0) {va : Value} (d : decode cc pc = .ok (.pop, 1)) (hc : va.category = 1) (hn : pc + 1 = n) (k : X p l e R s m args below meth c D A H0 nL Q bs cells slots lv n st) : X p l e R s m args below meth c D A H0 nL Q bs cells slots lv pc (va :: st) := fun H locs ls hB hS hl => lv_pop C.1 C.2.1 d hc (by rw [hn]; exact k H locs ls hB hS hl)
theorem xr_dup_x1 (C : YC p s m args c cc own D cy nL A H0) {va vb : Value} (d : decode cc pc = .ok (.dup_x1, 1)) (hc : va.category = 1) (hc2 : vb.category = 1) (hn : pc + 1 = n) (k : X p l e R s m args below meth c D A H0 nL Q bs cells slots lv n (va :: vb :: va :: st)) : X p l e R s m args below meth c D A H0 nL Q bs cells slots lv pc (va :: vb :: st) := fun H locs ls hB hS hl => lv_dup_x1 C.1 C.2.1 d hc hc2 (by rw [hn]; exact k H locs ls hB hS hl)
theorem xr_dup2 (C : YC p s m args c cc own D cy nL A H0) {va vb : Value} (d : decode cc pc = .ok (.dup2, 1)) (hc : va.category = 1) (hc2 : vb.category = 1) (hn : pc + 1 = n) (k : X p l e R s m args below meth c D A H0 nL Q bs cells slots lv n (va :: vb :: va :: vb :: st)) : X p l e R s m args below meth c D A H0 nL Q bs cells slots lv pc (va :: vb :: st) := fun H locs ls hB hS hl => lv_dup2_11 C.1 C.2.1 d hc hc2 (by rw [hn]; exact k H locs ls hB hS hl)
theorem xr_lcmp (C : YC p s m args c cc own D cy nL A H0) {x y : Int64} (d : decode cc pc = .ok (.lcmp, 1)) (hn : pc + 1 = n) (k : X p l e R s m args below meth c D A H0 nL Q bs cells slots lv n (.int (lg_cmp x y) :: st)) : X p l e R s m args below meth c D A H0 nL Q bs cells slots lv pc (.long y :: .long x :: st) := fun H locs ls hB hS hl => W.lcmp C.1 C.2.1 d (by rw [hn]; exact k H locs ls hB hS hl)
theorem xr_if_eq (C : YC p s m args c cc own D cy nL A H0) {x : Int32} {off : Int} {tgt : Nat} (d : decode cc pc = .ok (.ifCond .eq off, 3)) (ht : (pc : Int) + off = (tgt : Int)) (hn : pc + 3 = n) (kt : x = 0 → X p l e R s m args below meth c D A H0 nL Q bs cells slots lv tgt st) (kf : ¬ (x = 0) → X p l e R s m args below meth c D A H0 nL Q bs cells slots lv n st) : X p l e R s m args below meth c D A H0 nL Q bs cells slots lv pc (.int x :: st) := fun H locs ls hB hS hl => lv_if_eq C.1 C.2.1 d ht (fun h => kt h H locs ls hB hS hl) (fun h => by rw [hn]; exact kf h H locs ls hB hS hl)
theorem xr_icmp_eq (C : YC p s m args c cc own D cy nL A H0) {x y : Int32} {off : Int} {tgt : Nat} (d : decode cc pc = .ok (.if_icmp .eq off, 3)) (ht : (pc : Int) + off = (tgt : Int)) (hn : pc + 3 = n) (kt : x = y → X p l e R s m args below meth c D A H0 nL Q bs cells slots lv tgt st) (kf : ¬ (x = y) → X p l e R s m args below meth c D A H0 nL Q bs cells slots lv n st) : X p l e R s m args below meth c D A H0 nL Q bs cells slots lv pc (.int y :: .int x :: st) := fun H locs ls hB hS hl => lv_icmp_eq C.1 C.2.1 d ht (fun h => kt h H locs ls hB hS hl) (fun h => by rw [hn]; exact kf h H locs ls hB hS hl)
theorem xr_if_ne (C : YC p s m args c cc own D cy nL A H0) {x : Int32} {off : Int} {tgt : Nat} (d : decode cc pc = .ok (.ifCond .ne off, 3)) (ht : (pc : Int) + off = (tgt : Int)) (hn : pc + 3 = n) (kt : x ≠ 0 → X p l e R s m args below meth c D A H0 nL Q bs cells slots lv tgt st) (kf : x = 0 → X p l e R s m args below meth c D A H0 nL Q bs cells slots lv n st) : X p l e R s m args below meth c D A H0 nL Q bs cells slots lv pc (.int x :: st) := fun H locs ls hB hS hl => lv_if_ne C.1 C.2.1 d ht (fun h => kt h H locs ls hB hS hl) (fun h => by rw [hn]; exact kf h H locs ls hB hS hl)
theorem xr_icmp_ne (C : YC p s m args c cc own D cy nL A H0) {x y : Int32} {off : Int} {tgt : Nat} (d : decode cc pc = .ok (.if_icmp .ne off, 3)) (ht : (pc : Int) + off = (tgt : Int)) (hn : pc + 3 = n) (kt : x ≠ y → X p l e R s m args below meth c D A H0 nL Q bs cells slots lv tgt st) (kf : x = y → X p l e R s m args below meth c D A H0 nL Q bs cells slots lv n st) : X p l e R s m args below meth c D A H0 nL Q bs cells slots lv pc (.int y :: .int x :: st) := fun H locs ls hB hS hl => lv_icmp_ne C.1 C.2.1 d ht (fun h => kt h H locs ls hB hS hl) (fun h => by rw [hn]; exact kf h H locs ls hB hS hl)
theorem xr_if_lt (C : YC p s m args c cc own D cy nL A H0) {x : Int32} {off : Int} {tgt : Nat} (d : decode cc pc = .ok (.ifCond .lt off, 3)) (ht : (pc : Int) + off = (tgt : Int)) (hn : pc + 3 = n) (kt : x < 0 → X p l e R s m args below meth c D A H0 nL Q bs cells slots lv tgt st) (kf : ¬ (x < 0) → X p l e R s m args below meth c D A H0 nL Q bs cells slots lv n st) : X p l e R s m args below meth c D A H0 nL Q bs cells slots lv pc (.int x :: st) := fun H locs ls hB hS hl => lv_if_lt C.1 C.2.1 d ht (fun h => kt h H locs ls hB hS hl) (fun h => by rw [hn]; exact kf h H locs ls hB hS hl)
theorem xr_icmp_lt (C : YC p s m args c cc own D cy nL A H0) {x y : Int32} {off : Int} {tgt : Nat} (d : decode cc pc = .ok (.if_icmp .lt off, 3)) (ht : (pc : Int) + off = (tgt : Int)) (hn : pc + 3 = n) (kt : x < y → X p l e R s m args below meth c D A H0 nL Q bs cells slots lv tgt st) (kf : ¬ (x < y) → X p l e R s m args below meth c D A H0 nL Q bs cells slots lv n st) : X p l e R s m args below meth c D A H0 nL Q bs cells slots lv pc (.int y :: .int x :: st) := fun H locs ls hB hS hl => lv_icmp_lt C.1 C.2.1 d ht (fun h => kt h H locs ls hB hS hl) (fun h => by rw [hn]; exact kf h H locs ls hB hS hl)
theorem xr_if_ge (C : YC p s m args c cc own D cy nL A H0) {x : Int32} {off : Int} {tgt : Nat} (d : decode cc pc = .ok (.ifCond .ge off, 3)) (ht : (pc : Int) + off = (tgt : Int)) (hn : pc + 3 = n) (kt : 0 ≤ x → X p l e R s m args below meth c D A H0 nL Q bs cells slots lv tgt st) (kf : ¬ (0 ≤ x) → X p l e R s m args below meth c D A H0 nL Q bs cells slots lv n st) : X p l e R s m args below meth c D A H0 nL Q bs cells slots lv pc (.int x :: st) := fun H locs ls hB hS hl => lv_if_ge C.1 C.2.1 d ht (fun h => kt h H locs ls hB hS hl) (fun h => by rw [hn]; exact kf h H locs ls hB hS hl)
theorem xr_icmp_ge (C : YC p s m args c cc own D cy nL A H0) {x y : Int32} {off : Int} {tgt : Nat} (d : decode cc pc = .ok (.if_icmp .ge off, 3)) (ht : (pc : Int) + off = (tgt : Int)) (hn : pc + 3 = n) (kt : y ≤ x → X p l e R s m args below meth c D A H0 nL Q bs cells slots lv tgt st) (kf : ¬ (y ≤ x) → X p l e R s m args below meth c D A H0 nL Q bs cells slots lv n st) : X p l e R s m args below meth c D A H0 nL Q bs cells slots lv pc (.int y :: .int x :: st) := fun H locs ls hB hS hl => lv_icmp_ge C.1 C.2.1 d ht (fun h => kt h H locs ls hB hS hl) (fun h => by rw [hn]; exact kf h H locs ls hB hS hl)
theorem xr_if_gt (C : YC p s m args c cc own D cy nL A H0) {x : Int32} {off : Int} {tgt : Nat} (d : decode cc pc = .ok (.ifCond .gt off, 3)) (ht : (pc : Int) + off = (tgt : Int)) (hn : pc + 3 = n) (kt : 0 < x → X p l e R s m args below meth c D A H0 nL Q bs cells slots lv tgt st) (kf : ¬ (0 < x) → X p l e R s m args below meth c D A H0 nL Q bs cells slots lv n st) : X p l e R s m args below meth c D A H0 nL Q bs cells slots lv pc (.int x :: st) := fun H locs ls hB hS hl => lv_if_gt C.1 C.2.1 d ht (fun h => kt h H locs ls hB hS hl) (fun h => by rw [hn]; exact kf h H locs ls hB hS hl)
theorem xr_icmp_gt (C : YC p s m args c cc own D cy nL A H0) {x y : Int32} {off : Int} {tgt : Nat} (d : decode cc pc = .ok (.if_icmp .gt off, 3)) (ht : (pc : Int) + off = (tgt : Int)) (hn : pc + 3 = n) (kt : y < x → X p l e R s m args below meth c D A H0 nL Q bs cells slots lv tgt st) (kf : ¬ (y < x) → X p l e R s m args below meth c D A H0 nL Q bs cells slots lv n st) : X p l e R s m args below meth c D A H0 nL Q bs cells slots lv pc (.int y :: .int x :: st) := fun H locs ls hB hS hl => lv_icmp_gt C.1 C.2.1 d ht (fun h => kt h H locs ls hB hS hl) (fun h => by rw [hn]; exact kf h H locs ls hB hS hl)
theorem xr_if_le (C : YC p s m args c cc own D cy nL A H0) {x : Int32} {off : Int} {tgt : Nat} (d : decode cc pc = .ok (.ifCond .le off, 3)) (ht : (pc : Int) + off = (tgt : Int)) (hn : pc + 3 = n) (kt : x ≤ 0 → X p l e R s m args below meth c D A H0 nL Q bs cells slots lv tgt st) (kf : ¬ (x ≤ 0) → X p l e R s m args below meth c D A H0 nL Q bs cells slots lv n st) : X p l e R s m args below meth c D A H0 nL Q bs cells slots lv pc (.int x :: st) := fun H locs ls hB hS hl => lv_if_le C.1 C.2.1 d ht (fun h => kt h H locs ls hB hS hl) (fun h => by rw [hn]; exact kf h H locs ls hB hS hl)
theorem xr_icmp_le (C : YC p s m args c cc own D cy nL A H0) {x y : Int32} {off : Int} {tgt : Nat} (d : decode cc pc = .ok (.if_icmp .le off, 3)) (ht : (pc : Int) + off = (tgt : Int)) (hn : pc + 3 = n) (kt : x ≤ y → X p l e R s m args below meth c D A H0 nL Q bs cells slots lv tgt st) (kf : ¬ (x ≤ y) → X p l e R s m args below meth c D A H0 nL Q bs cells slots lv n st) : X p l e R s m args below meth c D A H0 nL Q bs cells slots lv pc (.int y :: .int x :: st) := fun H locs ls hB hS hl => lv_icmp_le C.1 C.2.1 d ht (fun h => kt h H locs ls hB hS hl) (fun h => by rw [hn]; exact kf h H locs ls hB hS hl)
theorem xr_goto (C : YC p s m args c cc own D cy nL A H0) {off : Int} {tgt : Nat} (d : decode cc pc = .ok (.goto off, 3)) (ht : (pc : Int) + off = (tgt : Int)) (k : X p l e R s m args below meth c D A H0 nL Q bs cells slots lv tgt st) : X p l e R s m args below meth c D A H0 nL Q bs cells slots lv pc st := fun H locs ls hB hS hl => lv_goto C.1 C.2.1 d ht (k H locs ls hB hS hl)
theorem xr_tableOut (C : YC p s m args c cc own D cy nL A H0) {dflt lo hi : Int} {offs : Array Int} {len : Nat} {x : Int32} {tgt : Nat} (d : decode cc pc = .ok (.tableswitch dflt lo hi offs, len)) (h : x.toInt < lo ∨ hi < x.toInt) (ht : (pc : Int) + dflt = (tgt : Int)) (k : X p l e R s m args below meth c D A H0 nL Q bs cells slots lv tgt st) : X p l e R s m args below meth c D A H0 nL Q bs cells slots lv pc (.int x :: st) := fun H locs ls hB hS hl => lv_tableOut C.1 C.2.1 d h ht (k H locs ls hB hS hl)
theorem xr_tableIn (C : YC p s m args c cc own D cy nL A H0) {dflt lo hi off : Int} {offs : Array Int} {len : Nat} {x : Int32} {tgt : Nat} (d : decode cc pc = .ok (.tableswitch dflt lo hi offs, len)) (h1 : ¬ x.toInt < lo) (h2 : ¬ hi < x.toInt) (ho : offs[(x.toInt - lo).toNat]? = some off) (ht : (pc : Int) + off = (tgt : Int)) (k : X p l e R s m args below meth c D A H0 nL Q bs cells slots lv tgt st) : X p l e R s m args below meth c D A H0 nL Q bs cells slots lv pc (.int x :: st) := fun H locs ls hB hS hl => lv_tableIn C.1 C.2.1 d h1 h2 ho ht (k H locs ls hB hS hl)
theorem xr_lookup (C : YC p s m args c cc own D cy nL A H0) {dflt : Int} {ps : Array (Int × Int)} {len : Nat} {x : Int32} {off : Int} {tgt : Nat} (d : decode cc pc = .ok (.lookupswitch dflt ps, len)) (hp : (ps.toList.zip (ps.toList.drop 1)).all (fun (a, next) => a.1 < next.1) = true) (ho : Op.lookupswitch.offset ps.toList dflt x.toInt = off) (ht : (pc : Int) + off = (tgt : Int)) (k : X p l e R s m args below meth c D A H0 nL Q bs cells slots lv tgt st) : X p l e R s m args below meth c D A H0 nL Q bs cells slots lv pc (.int x :: st) := fun H locs ls hB hS hl => lv_lookup C.1 C.2.1 d hp ho ht (k H locs ls hB hS hl)
theorem xr_ifnull (C : YC p s m args c cc own D cy nL A H0) {x : Nat} {off : Int} (d : decode cc pc = .ok (.ifnull off, 3)) (hn : pc + 3 = n) (k : X p l e R s m args below meth c D A H0 nL Q bs cells slots lv n st) : X p l e R s m args below meth c D A H0 nL Q bs cells slots lv pc (.ref x :: st) := fun H locs ls hB hS hl => lv_ifnull C.1 C.2.1 d (by rw [hn]; exact k H locs ls hB hS hl)
theorem xr_ifnullN (C : YC p s m args c cc own D cy nL A H0) {off : Int} {tgt : Nat} (d : decode cc pc = .ok (.ifnull off, 3)) (ht : (pc : Int) + off = (tgt : Int)) (k : X p l e R s m args below meth c D A H0 nL Q bs cells slots lv tgt st) : X p l e R s m args below meth c D A H0 nL Q bs cells slots lv pc (.null :: st) := fun H locs ls hB hS hl => lv_ifnullN C.1 C.2.1 d ht (k H locs ls hB hS hl)
theorem xr_ifnonnull (C : YC p s m args c cc own D cy nL A H0) {x : Nat} {off : Int} {tgt : Nat} (d : decode cc pc = .ok (.ifnonnull off, 3)) (ht : (pc : Int) + off = (tgt : Int)) (k : X p l e R s m args below meth c D A H0 nL Q bs cells slots lv tgt st) : X p l e R s m args below meth c D A H0 nL Q bs cells slots lv pc (.ref x :: st) := fun H locs ls hB hS hl => lv_ifnonnull C.1 C.2.1 d ht (k H locs ls hB hS hl)
theorem xr_ifnonnullN (C : YC p s m args c cc own D cy nL A H0) {off : Int} (d : decode cc pc = .ok (.ifnonnull off, 3)) (hn : pc + 3 = n) (k : X p l e R s m args below meth c D A H0 nL Q bs cells slots lv n st) : X p l e R s m args below meth c D A H0 nL Q bs cells slots lv pc (.null :: st) := fun H locs ls hB hS hl => lv_ifnonnullN C.1 C.2.1 d (by rw [hn]; exact k H locs ls hB hS hl)
theorem xr_get (C : YC p s m args c cc own D cy nL A H0) {CC ref : String} {TT : u_T} {N ci index a : Nat} {fs : List Value} {v : Value} (b : Nat) (hb : bs[b]? = some [(a, .inr (ci, fs))]) (hc : vwCl[ci]? = some (CC, TT, N)) (k0 : Nat) (hk : k0 < N) (hin : ∀ w ∈ u_ws CC TT N, w ∈ yU) (hlink : Cond.fieldLink own index ref (TT k0).2.1 (TT k0).2.2.1 ∈ yU) (hr : (TT k0).1 = ref) (hv : fs[k0]? = some v) (d : decode cc pc = .ok (.getfield index, 3)) (hn : pc + 3 = n) (k : X p l e R s m args below meth c D A H0 nL Q bs cells slots lv n (v :: st)) : X p l e R s m args below meth c D A H0 nL Q bs cells slots lv pc (.ref a :: st) := by
  intro H locs ls hB hS hl
  obtain ⟨q0, h1, -⟩ := xw_at bs b 0 _ _ hb rfl
  exact va_get (D := D) C.1 C.2.1 C.2.2.2.2.1 hin C.2.2.2.1 C.2.2.2.2.2.1.1 hB.1 q0 h1 hc k0 hk (C.2.2.2.2.1 _ hlink) (fun x h => by rw [← hr]; exact h) hv d (by rw [hn]; exact k H locs ls hB hS hl)
theorem xr_getN (C : YC p s m args c cc own D cy nL A H0) {CC ref : String} {TT : u_T} {N ci index a : Nat} {fs : List Value} {v : Value} (b : Nat) (hb : bs[b]? = some [(a, .inr (ci, fs))]) (hc : vwCl[ci]? = some (CC, TT, N)) (k0 : Nat) (hk : k0 < N) (hin : ∀ w ∈ u_ws CC TT N, w ∈ yU) (host : String) (hlink : Cond.fieldLinkNest own index ref (TT k0).2.1 (TT k0).2.2.1 host ∈ xn_nw) (hr : (TT k0).1 = ref) (hv : fs[k0]? = some v) (d : decode cc pc = .ok (.getfield index, 3)) (hn : pc + 3 = n) (k : X p l e R s m args below meth c D A H0 nL Q bs cells slots lv n (v :: st)) : X p l e R s m args below meth c D A H0 nL Q bs cells slots lv pc (.ref a :: st) := by
  intro H locs ls hB hS hl
  obtain ⟨q0, h1, -⟩ := xw_at bs b 0 _ _ hb rfl
  exact va_getN (D := D) C.1 C.2.1 C.2.2.2.2.1 hin C.2.2.2.1 C.2.2.2.2.2.1.1 hB.1 q0 h1 hc k0 hk (va_Nw.use rfl (C.2.2.2.2.2.1.2.1 _ hlink)) (fun x h => by rw [← hr]; exact h) hv d (by rw [hn]; exact k H locs ls hB hS hl)
theorem xr_put (C : YC p s m args c cc own D cy nL A H0) {CC ref : String} {TT : u_T} {N ci index a : Nat} {fs : List Value} {v : Value} (b : Nat) (hb : bs[b]? = some [(a, .inr (ci, fs))]) (hc : vwCl[ci]? = some (CC, TT, N)) (k0 : Nat) (hk : k0 < N) (hin : ∀ w ∈ u_ws CC TT N, w ∈ yU) (ty0 : Nat → FieldType) (hty : ∀ k, k < N → parseFieldDescriptor (TT k).2.2.1 = some (ty0 k)) (hnm : ∀ a, a < N → ∀ b, b < N → a ≠ b → (TT a).2.1 ≠ (TT b).2.1) (hlink : Cond.fieldLink own index ref (TT k0).2.1 (TT k0).2.2.1 ∈ yU) (hr : (TT k0).1 = ref) (hfin : (TT k0).2.2.2 = false) (hfit : fits (ty0 k0) v = true) (hnr : narrow (ty0 k0) v = v) (hlen : k0 < fs.length) (bs' : List va_W) (hbs : bs.set b [(a, .inr (ci, fs.set k0 v))] = bs') (hn : pc + 3 = n) (d : decode cc pc = .ok (.putfield index, 3)) (k : X p l e R s m args below meth c D A H0 nL Q bs' cells slots lv n st) : X p l e R s m args below meth c D A H0 nL Q bs cells slots lv pc (v :: .ref a :: st) := by
  intro H locs ls hB hS hl
  obtain ⟨q0, h1, h2⟩ := xw_at bs b 0 _ _ hb rfl
  refine va_put (D := D) C.1 C.2.1 C.2.2.2.2.1 hin ty0 hty hnm C.2.2.2.1 C.2.2.2.2.2.1.1 hB.1 hB.2 hS q0 h1 hc k0 hk (C.2.2.2.2.1 _ hlink) (fun x h => by rw [← hr]; exact h) hfin (hty k0 hk) hnr hfit hlen d (fun H1 locs1 hP1 hD1 hS1 => ?_)
  rw [hn]
  have e := h2 (a, .inr (ci, fs.set k0 v))
  rw [List.set_cons_zero, hbs] at e
  rw [e] at hP1 hD1
  exact k H1 locs1 ls ⟨hP1, hD1⟩ hS1 hl
theorem xr_putN (C : YC p s m args c cc own D cy nL A H0) {CC ref : String} {TT : u_T} {N ci index a : Nat} {fs : List Value} {v : Value} (b : Nat) (hb : bs[b]? = some [(a, .inr (ci, fs))]) (hc : vwCl[ci]? = some (CC, TT, N)) (k0 : Nat) (hk : k0 < N) (hin : ∀ w ∈ u_ws CC TT N, w ∈ yU) (ty0 : Nat → FieldType) (hty : ∀ k, k < N → parseFieldDescriptor (TT k).2.2.1 = some (ty0 k)) (hnm : ∀ a, a < N → ∀ b, b < N → a ≠ b → (TT a).2.1 ≠ (TT b).2.1) (host : String) (hlink : Cond.fieldLinkNest own index ref (TT k0).2.1 (TT k0).2.2.1 host ∈ xn_nw) (hr : (TT k0).1 = ref) (hfin : (TT k0).2.2.2 = false) (hfit : fits (ty0 k0) v = true) (hnr : narrow (ty0 k0) v = v) (hlen : k0 < fs.length) (bs' : List va_W) (hbs : bs.set b [(a, .inr (ci, fs.set k0 v))] = bs') (hn : pc + 3 = n) (d : decode cc pc = .ok (.putfield index, 3)) (k : X p l e R s m args below meth c D A H0 nL Q bs' cells slots lv n st) : X p l e R s m args below meth c D A H0 nL Q bs cells slots lv pc (v :: .ref a :: st) := by
  intro H locs ls hB hS hl
  obtain ⟨q0, h1, h2⟩ := xw_at bs b 0 _ _ hb rfl
  refine va_putN (D := D) C.1 C.2.1 C.2.2.2.2.1 hin ty0 hty hnm C.2.2.2.1 C.2.2.2.2.2.1.1 hB.1 hB.2 hS q0 h1 hc k0 hk (va_Nw.use rfl (C.2.2.2.2.2.1.2.1 _ hlink)) (fun x h => by rw [← hr]; exact h) hfin (hty k0 hk) hnr hfit hlen d (fun H1 locs1 hP1 hD1 hS1 => ?_)
  rw [hn]
  have e := h2 (a, .inr (ci, fs.set k0 v))
  rw [List.set_cons_zero, hbs] at e
  rw [e] at hP1 hD1
  exact k H1 locs1 ls ⟨hP1, hD1⟩ hS1 hl
theorem xr_putF (C : YC p s m args c cc own D cy nL A H0) {CC ref : String} {TT : u_T} {N ci index a : Nat} {fs : List Value} {v : Value} (b : Nat) (hb : bs[b]? = some [(a, .inr (ci, fs))]) (hc : vwCl[ci]? = some (CC, TT, N)) (k0 : Nat) (hk : k0 < N) (hin : ∀ w ∈ u_ws CC TT N, w ∈ yU) (ty0 : Nat → FieldType) (hty : ∀ k, k < N → parseFieldDescriptor (TT k).2.2.1 = some (ty0 k)) (hnm : ∀ a, a < N → ∀ b, b < N → a ≠ b → (TT a).2.1 ≠ (TT b).2.1) (hlink : Cond.fieldLink own index ref (TT k0).2.1 (TT k0).2.2.1 ∈ yU) (hr : (TT k0).1 = ref) (hfin : (TT k0).2.2.2 = true) (hin2 : meth.name = "<init>") (hdecl : (TT k0).1 = own) (hfit : fits (ty0 k0) v = true) (hnr : narrow (ty0 k0) v = v) (hlen : k0 < fs.length) (bs' : List va_W) (hbs : bs.set b [(a, .inr (ci, fs.set k0 v))] = bs') (hn : pc + 3 = n) (d : decode cc pc = .ok (.putfield index, 3)) (k : X p l e R s m args below meth c D A H0 nL Q bs' cells slots lv n st) : X p l e R s m args below meth c D A H0 nL Q bs cells slots lv pc (v :: .ref a :: st) := by
  intro H locs ls hB hS hl
  obtain ⟨q0, h1, h2⟩ := xw_at bs b 0 _ _ hb rfl
  refine va_putF (D := D) C.1 C.2.1 C.2.2.2.2.1 hin ty0 hty hnm C.2.2.2.1 C.2.2.2.2.2.1.1 hB.1 hB.2 hS q0 h1 hc k0 hk (C.2.2.2.2.1 _ hlink) (fun x h => by rw [← hr]; exact h) hfin hin2 hdecl (hty k0 hk) hnr hfit hlen d (fun H1 locs1 hP1 hD1 hS1 => ?_)
  rw [hn]
  have e := h2 (a, .inr (ci, fs.set k0 v))
  rw [List.set_cons_zero, hbs] at e
  rw [e] at hP1 hD1
  exact k H1 locs1 ls ⟨hP1, hD1⟩ hS1 hl
theorem xr_iald (C : YC p s m args c cc own D cy nL A H0) {a N : Nat} {f : Nat → Int32} {x : Int32} (b i : Nat) {kb : va_W} (hb : bs[b]? = some kb) (hi : kb[i]? = some (a, .inl (cy 1, N, .inl f))) (hin : vp_in x N) (d : decode cc pc = .ok (.iaload, 1)) (hn : pc + 1 = n) (k : X p l e R s m args below meth c D A H0 nL Q bs cells slots lv n (.int (f x.toNatClampNeg) :: st)) : X p l e R s m args below meth c D A H0 nL Q bs cells slots lv pc (.int x :: .ref a :: st) := by
  intro H locs ls hB hS hl
  obtain ⟨q0, h1, -⟩ := xw_at bs b i _ _ hb hi
  exact va_iald (D := D) C.1 C.2.1 C.2.2.2.2.2.1.1 hB.1 q0 1 h1 rfl hin d (by rw [hn]; exact k H locs ls hB hS hl)
theorem xr_zald (C : YC p s m args c cc own D cy nL A H0) {a N : Nat} {f : Nat → Int32} {x : Int32} (b i : Nat) {kb : va_W} (hb : bs[b]? = some kb) (hi : kb[i]? = some (a, .inl (cy 2, N, .inl f))) (hin : vp_in x N) (d : decode cc pc = .ok (.baload, 1)) (hn : pc + 1 = n) (k : X p l e R s m args below meth c D A H0 nL Q bs cells slots lv n (.int (f x.toNatClampNeg) :: st)) : X p l e R s m args below meth c D A H0 nL Q bs cells slots lv pc (.int x :: .ref a :: st) := by
  intro H locs ls hB hS hl
  obtain ⟨q0, h1, -⟩ := xw_at bs b i _ _ hb hi
  exact va_zald (D := D) C.1 C.2.1 C.2.2.2.2.2.1.1 hB.1 q0 2 h1 rfl hin d (by rw [hn]; exact k H locs ls hB hS hl)
theorem xr_bald (C : YC p s m args c cc own D cy nL A H0) {a N : Nat} {f : Nat → Int32} {x : Int32} (b i : Nat) {kb : va_W} (hb : bs[b]? = some kb) (hi : kb[i]? = some (a, .inl (cy 0, N, .inl f))) (hin : vp_in x N) (d : decode cc pc = .ok (.baload, 1)) (hn : pc + 1 = n) (k : X p l e R s m args below meth c D A H0 nL Q bs cells slots lv n (.int (f x.toNatClampNeg) :: st)) : X p l e R s m args below meth c D A H0 nL Q bs cells slots lv pc (.int x :: .ref a :: st) := by
  intro H locs ls hB hS hl
  obtain ⟨q0, h1, -⟩ := xw_at bs b i _ _ hb hi
  exact va_bald (D := D) C.1 C.2.1 C.2.2.2.2.2.1.1 hB.1 q0 0 h1 rfl hin d (by rw [hn]; exact k H locs ls hB hS hl)
theorem xr_iast (C : YC p s m args c cc own D cy nL A H0) {a N : Nat} {f : Nat → Int32} {x v : Int32} (b i : Nat) {kb : va_W} (hb : bs[b]? = some kb) (hi : kb[i]? = some (a, .inl (cy 1, N, .inl f))) (hin : vp_in x N) (bs' : List va_W) (hbs : bs.set b (kb.set i (a, .inl (cy 1, N, .inl (upd f x.toNatClampNeg v)))) = bs') (d : decode cc pc = .ok (.iastore, 1)) (hn : pc + 1 = n) (k : X p l e R s m args below meth c D A H0 nL Q bs' cells slots lv n st) : X p l e R s m args below meth c D A H0 nL Q bs cells slots lv pc (.int v :: .int x :: .ref a :: st) := by
  intro H locs ls hB hS hl
  obtain ⟨q0, h1, h2⟩ := xw_at bs b i _ _ hb hi
  refine va_iast (D := D) C.1 C.2.1 C.2.2.2.2.2.1.1 hB.1 hB.2 hS q0 1 h1 rfl hin d (fun H1 locs1 hP1 hD1 hS1 => ?_)
  rw [hn]
  rw [h2, hbs] at hP1 hD1
  exact k H1 locs1 ls ⟨hP1, hD1⟩ hS1 hl
theorem xr_zast (C : YC p s m args c cc own D cy nL A H0) {a N : Nat} {f : Nat → Int32} {x v : Int32} (b i : Nat) {kb : va_W} (hb : bs[b]? = some kb) (hi : kb[i]? = some (a, .inl (cy 2, N, .inl f))) (hin : vp_in x N) (bs' : List va_W) (hbs : bs.set b (kb.set i (a, .inl (cy 2, N, .inl (upd f x.toNatClampNeg (vp_nar .boolean v))))) = bs') (d : decode cc pc = .ok (.bastore, 1)) (hn : pc + 1 = n) (k : X p l e R s m args below meth c D A H0 nL Q bs' cells slots lv n st) : X p l e R s m args below meth c D A H0 nL Q bs cells slots lv pc (.int v :: .int x :: .ref a :: st) := by
  intro H locs ls hB hS hl
  obtain ⟨q0, h1, h2⟩ := xw_at bs b i _ _ hb hi
  refine va_zast (D := D) C.1 C.2.1 C.2.2.2.2.2.1.1 hB.1 hB.2 hS q0 2 h1 rfl hin d (fun H1 locs1 hP1 hD1 hS1 => ?_)
  rw [hn]
  rw [h2, hbs] at hP1 hD1
  exact k H1 locs1 ls ⟨hP1, hD1⟩ hS1 hl
theorem xr_bast (C : YC p s m args c cc own D cy nL A H0) {a N : Nat} {f : Nat → Int32} {x v : Int32} (b i : Nat) {kb : va_W} (hb : bs[b]? = some kb) (hi : kb[i]? = some (a, .inl (cy 0, N, .inl f))) (hin : vp_in x N) (bs' : List va_W) (hbs : bs.set b (kb.set i (a, .inl (cy 0, N, .inl (upd f x.toNatClampNeg (vp_nar .byte v))))) = bs') (d : decode cc pc = .ok (.bastore, 1)) (hn : pc + 1 = n) (k : X p l e R s m args below meth c D A H0 nL Q bs' cells slots lv n st) : X p l e R s m args below meth c D A H0 nL Q bs cells slots lv pc (.int v :: .int x :: .ref a :: st) := by
  intro H locs ls hB hS hl
  obtain ⟨q0, h1, h2⟩ := xw_at bs b i _ _ hb hi
  refine va_bast (D := D) C.1 C.2.1 C.2.2.2.2.2.1.1 hB.1 hB.2 hS q0 0 h1 rfl hin d (fun H1 locs1 hP1 hD1 hS1 => ?_)
  rw [hn]
  rw [h2, hbs] at hP1 hD1
  exact k H1 locs1 ls ⟨hP1, hD1⟩ hS1 hl
theorem xr_alen (C : YC p s m args c cc own D cy nL A H0) {a : Nat} {xx : vp_A} (b i : Nat) {kb : va_W} (hb : bs[b]? = some kb) (t0 : Nat) (hi : kb[i]? = some (a, .inl (cy t0, xx))) {ty : FieldType} (ht : (xn_tys cy)[t0]? = some (cy t0, ty)) (d : decode cc pc = .ok (.arraylength, 1)) (hn : pc + 1 = n) (k : X p l e R s m args below meth c D A H0 nL Q bs cells slots lv n (.int (nI xx.1) :: st)) : X p l e R s m args below meth c D A H0 nL Q bs cells slots lv pc (.ref a :: st) := by
  intro H locs ls hB hS hl
  obtain ⟨q0, h1, -⟩ := xw_at bs b i _ _ hb hi
  exact va_alen (D := D) C.1 C.2.1 C.2.2.2.2.2.1.1 hB.1 q0 t0 h1 ht (v := nI xx.1) rfl d (by rw [hn]; exact k H locs ls hB hS hl)
theorem xr_aald (C : YC p s m args c cc own D cy nL A H0) {a N q : Nat} {f : Nat → Option Nat} {x : Int32} (b i : Nat) {kb : va_W} (hb : bs[b]? = some kb) (t0 : Nat) (hi : kb[i]? = some (a, .inl (cy t0, N, .inr (.inr (.inr (.inr f)))))) {ty : FieldType} (ht : (xn_tys cy)[t0]? = some (cy t0, .array ty)) (hin : vp_in x N) (hf : f x.toNatClampNeg = some q) (d : decode cc pc = .ok (.aaload, 1)) (hn : pc + 1 = n) (k : X p l e R s m args below meth c D A H0 nL Q bs cells slots lv n (.ref q :: st)) : X p l e R s m args below meth c D A H0 nL Q bs cells slots lv pc (.int x :: .ref a :: st) := by
  intro H locs ls hB hS hl
  obtain ⟨q0, h1, -⟩ := xw_at bs b i _ _ hb hi
  have hlt : x.toNatClampNeg < N := Nat.not_le.mp fun z => hin (Or.inr z)
  exact W.aald (v := .ref q) (ty := .array ty) C.1 C.2.1 (hB.1 q0 _ h1) ((C.2.2.2.2.2.1.1.2 t0 _ ht).1 N (fun j => va_rf (f j))) rfl (fun z => by cases z) (by show ¬ (x < 0 ∨ (arrV _ _ _).slots.size ≤ _); rw [arrV_size]; exact hin) (by show (arrV _ _ _).slots[_]? = _; rw [arrV_read _ _ hlt, hf]; rfl) rfl rfl d (by rw [hn]; exact k H locs ls hB hS hl)
theorem xr_perm (C : YC p s m args c cc own D cy nL A H0) (N0 : Nat) (i1 i2 : List Nat) (bs' : List va_W) (hN0 : bs.length = N0) (hp : (i1 ++ i2).isPerm (List.range N0) = true) (h1 : i1.filterMap (fun i => bs[i]?) = bs') (k : X p l e R s m args below meth c D A H0 nL Q bs' cells slots lv pc st) : X p l e R s m args below meth c D A H0 nL Q bs cells slots lv pc st := fun H locs ls hB hS hl => k H locs ls (hB.perm (xw_idx i1 i2 (by rw [hN0]; exact hp) h1 rfl)) hS hl
theorem xr_sub {bs' : List va_W} (h : ∃ r, bs.flatten.Perm (bs'.flatten ++ r)) (k : X p l e R s m args below meth c D A H0 nL Q bs' cells slots lv pc st) : X p l e R s m args below meth c D A H0 nL Q bs cells slots lv pc st := fun H locs ls hB hS hl => k H locs ls (hB.sublist h) hS hl
theorem xr_flat {bs' : List va_W} (h : bs.flatten = bs'.flatten) (k : X p l e R s m args below meth c D A H0 nL Q bs' cells slots lv pc st) : X p l e R s m args below meth c D A H0 nL Q bs cells slots lv pc st := fun H locs ls hB hS hl => k H locs ls (by unfold XB at hB ⊢; rw [← h]; exact hB) hS hl
theorem xr_eq {bs' : List va_W} (h : bs = bs') (k : X p l e R s m args below meth c D A H0 nL Q bs' cells slots lv pc st) : X p l e R s m args below meth c D A H0 nL Q bs cells slots lv pc st := h ▸ k
theorem xr_lv {lv' : List (Nat × Value)} (ks : List Nat) (h : lv_pick lv ks = lv') (k : X p l e R s m args below meth c D A H0 nL Q bs cells slots lv' pc st) : X p l e R s m args below meth c D A H0 nL Q bs cells slots lv pc st := fun H locs ls hB hS hl => k H locs ls hB hS (lv_sub hl ks h)
theorem xr_st {st' : List Value} (h : st = st') (k : X p l e R s m args below meth c D A H0 nL Q bs cells slots lv pc st') : X p l e R s m args below meth c D A H0 nL Q bs cells slots lv pc st := h ▸ k
theorem xr_topI {x y : Int32} (h : x = y) (k : X p l e R s m args below meth c D A H0 nL Q bs cells slots lv pc (.int y :: st)) : X p l e R s m args below meth c D A H0 nL Q bs cells slots lv pc (.int x :: st) := h ▸ k
theorem xr_topL {x y : Int64} (h : x = y) (k : X p l e R s m args below meth c D A H0 nL Q bs cells slots lv pc (.long y :: st)) : X p l e R s m args below meth c D A H0 nL Q bs cells slots lv pc (.long x :: st) := h ▸ k
theorem xr_widen {c2 s2 : Nat} (h1 : cells ≤ c2) (h2 : slots ≤ s2) (k : X p l e R s m args below meth c D A H0 nL Q bs c2 s2 lv pc st) : X p l e R s m args below meth c D A H0 nL Q bs cells slots lv pc st := fun H locs ls hB hS hl => W.widen h1 h2 (k H locs ls hB hS hl)
theorem xr_new (C : YC p s m args c cc own D cy nL A H0) {CC : String} {TT : u_T} {N ci index : Nat} (ty : Nat → FieldType) (hty : ∀ k, k < N → parseFieldDescriptor (TT k).2.2.1 = some (ty k)) (hin : ∀ w ∈ u_ws CC TT N, w ∈ yU) (h1 : Cond.classLink own index CC ∈ yU) (h2 : Cond.instantiable CC N ∈ yU) (h3 : Cond.initialized CC ∈ yU) (hc : vwCl[ci]? = some (CC, TT, N)) (fs : List Value) (hfs : ∀ j, j < N → defaultValue (ty j) = vp_V fs j) (hcells : cells + 1 ≤ R.cells) (hslots : slots + N ≤ R.slots) (d : decode cc pc = .ok (.new index, 3)) (hn : pc + 3 = n) (k : ∀ q : Nat, X p l e R s m args below meth c D A H0 nL Q (bs ++ [[(q, .inr (ci, fs))]]) (cells + 1) (slots + N) lv n (.ref q :: st)) : X p l e R s m args below meth c D A H0 nL Q bs cells slots lv pc st := by
  intro H locs ls hB hS hl
  refine va_new (D := D) C.1 C.2.1 C.2.2.2.2.1 hin ty hty C.2.2.2.1 (C.2.2.2.2.1 _ h1) (C.2.2.2.2.1 _ h2) (C.2.2.2.2.1 _ h3) C.2.2.2.2.2.1.1 hB.1 hB.2 hS C.2.2.2.2.2.2.1 hc hfs hcells hslots d (fun q H1 hP hD hS1 => ?_)
  rw [hn]
  refine k q H1 locs ls ⟨?_, ?_⟩ hS1 hl
  · rw [List.flatten_append]; exact hP
  · rw [List.flatten_append]; exact hD
theorem xr_newa (C : YC p s m args c cc own D cy nL A H0) (h1 : Cond.arrayClass .int ∈ yU) {x : Int32} {N' : Nat} (hx : ¬ x < 0) (hN : x.toNatClampNeg = N') (hb : N' * 4 ≤ 536870912) (hcells : cells + 1 ≤ R.cells) (hslots : slots + N' ≤ R.slots) (d : decode cc pc = .ok (.newarray .int, 2)) (hn : pc + 2 = n) (k : ∀ q : Nat, X p l e R s m args below meth c D A H0 nL Q (bs ++ [[(q, .inl (cy 1, N', .inl (fun _ => 0)))]]) (cells + 1) (slots + N') lv n (.ref q :: st)) : X p l e R s m args below meth c D A H0 nL Q bs cells slots lv pc (.int x :: st) := by
  intro H locs ls hB hS hl
  refine va_newa (D := D) (atype := .int) (ty := .int) (a0 := (N', .inl (fun _ => 0))) C.1 C.2.1 (C.2.2.2.2.1 _ h1) rfl C.2.2.2.2.2.1.1 hB.1 hB.2 hS C.2.2.2.2.2.2.1 (fun cA => rfl) hx hN hb hcells hslots d (fun q cA H1 hK hP hD hS1 => ?_)
  have e : cA = cy 1 := by
    have g1 := (hK.2 5 _ rfl).2
    have g2 := (C.2.2.2.2.2.1.1.2 1 _ rfl).2
    exact Option.some.inj (g1.symm.trans g2)
  subst e
  rw [hn]
  refine k q H1 locs ls ⟨?_, ?_⟩ hS1 hl
  · rw [List.flatten_append]; exact hP
  · rw [List.flatten_append]; exact hD
/-- n arrays of k places each, at ad 0 .. ad (n-1), the i-th with the values G i -/
def xg_rows (ad : Nat → Nat) (n : Nat) (cA : ClassId) (k : Nat) (G : Nat → Nat → Int32) : va_W := (List.range n).map (fun i => (ad i, .inl (cA, k, .inl (G i))))
theorem xg_at {ad : Nat → Nat} {n : Nat} {cA : ClassId} {k : Nat} {G : Nat → Nat → Int32} {i : Nat} (h : i < n) : (xg_rows ad n cA k G)[i]? = some (ad i, .inl (cA, k, .inl (G i))) := by
  unfold xg_rows
  rw [List.getElem?_map, List.getElem?_range h]
  rfl
/-- a table's place written -/
def upg (G : Nat → Nat → Int32) (i j : Nat) (v : Int32) : Nat → Nat → Int32 := fun a b => if a = i then upd (G i) j v b else G a b
theorem upg_at (G : Nat → Nat → Int32) (i j : Nat) (v : Int32) : upg G i j v i = upd (G i) j v := funext fun _ => if_pos rfl
theorem upg_ne (G : Nat → Nat → Int32) {i j m : Nat} (v : Int32) (h : ¬ m = i) : upg G i j v m = G m := funext fun _ => if_neg h
theorem xg_set {ad : Nat → Nat} {n : Nat} {cA : ClassId} {k : Nat} {G : Nat → Nat → Int32} {i j : Nat} {v : Int32} (h : i < n) : (xg_rows ad n cA k G).set i (ad i, .inl (cA, k, .inl (upd (G i) j v))) = xg_rows ad n cA k (upg G i j v) := by
  unfold xg_rows
  apply List.ext_getElem?
  intro m
  rw [List.getElem?_set]
  by_cases hm : i = m
  · subst hm
    rw [if_pos rfl, if_pos (by simpa using h), List.getElem?_map, List.getElem?_range h, Option.map_some, upg_at]
  · rw [if_neg hm, List.getElem?_map, List.getElem?_map]
    by_cases hl : m < n
    · rw [List.getElem?_range hl]
      rw [Option.map_some, Option.map_some, upg_ne G v (fun q => hm q.symm)]
    · rw [List.getElem?_eq_none (by simpa using Nat.le_of_not_lt hl)]
      rfl
theorem xg_ext {ad ad' : Nat → Nat} {n : Nat} {cA : ClassId} {k : Nat} {G G' : Nat → Nat → Int32} (h : ∀ i, i < n → ad i = ad' i ∧ G i = G' i) : xg_rows ad n cA k G = xg_rows ad' n cA k G' := by
  unfold xg_rows
  apply List.map_congr_left
  intro i hi
  obtain ⟨h1, h2⟩ := h i (List.mem_range.mp hi)
  rw [h1, h2]
theorem xg_push {ad : Nat → Nat} {n : Nat} {cA : ClassId} {k : Nat} {G : Nat → Nat → Int32} {q : Nat} {f : Nat → Int32} : xg_rows ad n cA k G ++ [(q, .inl (cA, k, .inl f))] = xg_rows (va_up ad n q) (n + 1) cA k (va_up G n f) := by
  unfold xg_rows
  rw [List.range_succ, List.map_append]
  congr 1
  · apply List.map_congr_left
    intro i hi
    have h := List.mem_range.mp hi
    have : ¬ i = n := by omega
    simp [va_up, this]
  · simp [va_up]
theorem xr_iastg (C : YC p s m args c cc own D cy nL A H0) {ad : Nat → Nat} {n0 N : Nat} {G : Nat → Nat → Int32} {x v : Int32} (b : Nat) (hb : bs[b]? = some (xg_rows ad n0 (cy 1) N G)) (i : Nat) (hi : i < n0) (hin : vp_in x N) (bs' : List va_W) (hbs : bs.set b (xg_rows ad n0 (cy 1) N (upg G i x.toNatClampNeg v)) = bs') (d : decode cc pc = .ok (.iastore, 1)) (hn : pc + 1 = n) (k : X p l e R s m args below meth c D A H0 nL Q bs' cells slots lv n st) : X p l e R s m args below meth c D A H0 nL Q bs cells slots lv pc (.int v :: .int x :: .ref (ad i) :: st) := xr_iast C b i hb (xg_at hi) hin bs' (by rw [xg_set hi]; exact hbs) d hn k
theorem xr_zastg (C : YC p s m args c cc own D cy nL A H0) {ad : Nat → Nat} {n0 N : Nat} {G : Nat → Nat → Int32} {x v : Int32} (b : Nat) (hb : bs[b]? = some (xg_rows ad n0 (cy 2) N G)) (i : Nat) (hi : i < n0) (hin : vp_in x N) (bs' : List va_W) (hbs : bs.set b (xg_rows ad n0 (cy 2) N (upg G i x.toNatClampNeg (vp_nar .boolean v))) = bs') (d : decode cc pc = .ok (.bastore, 1)) (hn : pc + 1 = n) (k : X p l e R s m args below meth c D A H0 nL Q bs' cells slots lv n st) : X p l e R s m args below meth c D A H0 nL Q bs cells slots lv pc (.int v :: .int x :: .ref (ad i) :: st) := xr_zast C b i hb (xg_at hi) hin bs' (by rw [xg_set hi]; exact hbs) d hn k
theorem xr_ialdg (C : YC p s m args c cc own D cy nL A H0) {ad : Nat → Nat} {n0 N : Nat} {G : Nat → Nat → Int32} {x : Int32} (b : Nat) (hb : bs[b]? = some (xg_rows ad n0 (cy 1) N G)) (i : Nat) (hi : i < n0) (hin : vp_in x N) (d : decode cc pc = .ok (.iaload, 1)) (hn : pc + 1 = n) (k : X p l e R s m args below meth c D A H0 nL Q bs cells slots lv n (.int (G i x.toNatClampNeg) :: st)) : X p l e R s m args below meth c D A H0 nL Q bs cells slots lv pc (.int x :: .ref (ad i) :: st) := xr_iald C b i hb (xg_at hi) hin d hn k
theorem xr_zaldg (C : YC p s m args c cc own D cy nL A H0) {ad : Nat → Nat} {n0 N : Nat} {G : Nat → Nat → Int32} {x : Int32} (b : Nat) (hb : bs[b]? = some (xg_rows ad n0 (cy 2) N G)) (i : Nat) (hi : i < n0) (hin : vp_in x N) (d : decode cc pc = .ok (.baload, 1)) (hn : pc + 1 = n) (k : X p l e R s m args below meth c D A H0 nL Q bs cells slots lv n (.int (G i x.toNatClampNeg) :: st)) : X p l e R s m args below meth c D A H0 nL Q bs cells slots lv pc (.int x :: .ref (ad i) :: st) := xr_zald C b i hb (xg_at hi) hin d hn k
theorem xr_aleng (C : YC p s m args c cc own D cy nL A H0) {ad : Nat → Nat} {n0 N : Nat} {G : Nat → Nat → Int32} (b : Nat) (t0 : Nat) (hb : bs[b]? = some (xg_rows ad n0 (cy t0) N G)) (i : Nat) (hi : i < n0) {ty : FieldType} (ht : (xn_tys cy)[t0]? = some (cy t0, ty)) (d : decode cc pc = .ok (.arraylength, 1)) (hn : pc + 1 = n) (k : X p l e R s m args below meth c D A H0 nL Q bs cells slots lv n (.int (nI N) :: st)) : X p l e R s m args below meth c D A H0 nL Q bs cells slots lv pc (.ref (ad i) :: st) := xr_alen C b i hb t0 (xg_at hi) ht d hn k
theorem yw_call {b1 b2 : List va_W} {mc' ms' : Nat} {H : Heap} {locs : List Loc} {ls : Array Slot} {st0 rest : List Value} {a : Array Value} {post : Option Value → List va_W → Prop} (hr : va_Run p l e R s m args below meth c H locs cells slots mc' ms' (F0 m pc ls st0) rest (yQ D b1 H.size post a) (va_A b1.flatten H.size)) (hB : XB D A (b1 ++ b2) H) (hS : va_S A H0 H locs) (hA : ∀ q, H0.size ≤ q → A q)
    (kk : ∀ (v : Option Value) (u : List va_W) (H1 : Heap) (locs1 : List Loc), post v u → XB D A (u ++ b2) H1 → va_S A H0 H1 locs1 → W p l e R s m args below meth c H1 locs1 (cells + mc') (slots + ms') Q (F0 m (pc + 3) ls (v.toList ++ rest))) : W p l e R s m args below meth c H locs cells slots Q (F0 m pc ls st0) := by
  intro T hT Xs
  obtain ⟨v, st₀, t, T', L, h0, X', hL, e1, e2, ⟨⟨v', u, hv, hp, hb⟩, hz, hk⟩, st⟩ := hr T hT Xs
  cases hv
  rw [h0] at hz hk
  have hF := xw_free hB hS hA
  obtain ⟨t2, a1, b1⟩ := kk v u T'.heap (locs ++ L) hp (xw_keep hB (fun q h1 h2 => by rw [e1]; exact hk q h1 h2) hF (by rw [e1]; exact hb.1) hb.2)
    ⟨Nat.le_trans hS.1 (by rw [e1]; exact hz), fun q h1 h2 => by rw [e1, hk q (Nat.lt_of_lt_of_le h1 hS.1) (fun z => h2 (hF q z))]; exact hS.2.1 q h1 h2, fun q hq => by
      rcases List.mem_append.mp hq with h | h
      · exact hS.2.2 q h
      · exact hF _ (hL q h)⟩ T' rfl X'
  exact ⟨t2, st t2 a1, b1⟩
theorem yw_pre {b1 b2 : List va_W} {H : Heap} {locs : List Loc} {As : List Value} (C : YC p s m args c cc own D cy nL A H0) (hB : XB D A (b1 ++ b2) H) (hS : va_S A H0 H locs) : ∀ U : State, U.heap = H → s.WarmedH U.vm → yPre D cy As b1 H.size As.toArray U := by
  intro U hU hW
  have hB1 : XB D A b1 H := hB.perm (List.Perm.refl _)
  have hF := xw_free hB hS C.2.2.2.2.2.2.1
  refine ⟨rfl, by rw [hU], by rw [hU]; exact hB1.1, C.2.2.2.2.2.1.warm hW, hB1.2.weaken (fun _ _ _ _ => trivial), ?_⟩
  rw [hU]
  exact ((C.2.2.2.2.2.2.2.kept hS.2.1).narrow hF).moved hW.alike
theorem xr_callV (C : YC p s m args c cc own D cy nL A H0) {y : MethodName} {bytes : ByteArray} {maxL index nA d' mc' ms' : Nat} {ret : Option FieldType} {b1 b2 : List va_W} {As rest : List Value} {post : Option Value → List va_W → Prop} {bo : Nat} (hM : YM l D cy y (.code y bytes maxL ret) d' mc' ms' (.ref bo :: As) b1 post) (hy : yM y (.code y bytes maxL ret) nA) (h1 : Cond.methodLink own index y ∈ yU) (h2 : Cond.instanceMethod y ∈ yU) (h3 : Cond.selects y.cls y y ∈ yU) (jb : Nat) {fs : List Value} {ci : Nat} {TT : u_T} {N : Nat} (hjb : bs[jb]? = some [(bo, .inr (ci, fs))]) (hcl : vwCl[ci]? = some (y.cls, TT, N)) (N0 : Nat) (i1 i2 : List Nat) (hN0 : bs.length = N0) (hp : (i1 ++ i2).isPerm (List.range N0) = true) (h1p : i1.filterMap (fun i => bs[i]?) = b1) (h2p : i2.filterMap (fun i => bs[i]?) = b2) (hst : st = As.reverse ++ .ref bo :: rest) (hA : As.length = nA) (hW : (rest.map fun v => v.category).sum ≤ 8) (hfr : d' + 1 ≤ R.frames) (hlo : 8 + (maxL + 11) + 100 * d' ≤ R.locals) (hc : cells + mc' ≤ R.cells) (hs : slots + ms' ≤ R.slots) (d : decode cc pc = .ok (.invokevirtual index, 3)) (hn : pc + 3 = n) (kk : ∀ (v : Option Value) (u : List va_W), post v u → X p l e R s m args below meth c D A H0 nL Q (u ++ b2) (cells + mc') (slots + ms') lv n (v.toList ++ rest)) : X p l e R s m args below meth c D A H0 nL Q bs cells slots lv pc st := by
  intro H locs ls hB hS hl
  subst hst
  obtain ⟨qr, hr0, -⟩ := xw_at bs jb 0 _ _ hjb rfl
  have hBp := hB.eqv (xw_idx i1 i2 (by rw [hN0]; exact hp) h1p h2p)
  refine yw_call (post := post) (va_runV (As := As) (rest := rest) ⟨C.1, C.2.1, C.2.2.1, C.2.2.2.1, C.2.2.2.2.1⟩ (hM H.size) (cwV nA C.2.2.2.2.1 (yg_V hy h1 h2 h3) rfl rfl rfl ⟨rfl, hy.2.2.1, hy.2.2.2.1, hy.2.2.2.2⟩ ⟨hfr, hlo⟩) ⟨yblind, va_recv C.2.2.2.2.2.1.1 hB.1 hcl hr0, yw_pre C hBp hS⟩ rfl hA hl.1 rfl (lv_room hW) d ⟨hc, hs⟩) hBp hS C.2.2.2.2.2.2.1 (fun v u H1 locs1 hw hB1 hS1 => ?_)
  rw [hn]
  exact kk v u hw H1 locs1 ls hB1 hS1 hl
theorem xr_callVp (C : YC p s m args c cc own D cy nL A H0) {y : MethodName} {bytes : ByteArray} {maxL index nA d' mc' ms' : Nat} {ret : Option FieldType} {b1 b2 : List va_W} {As rest : List Value} {post : Option Value → List va_W → Prop} {bo : Nat} (hM : YM l D cy y (.code y bytes maxL ret) d' mc' ms' (.ref bo :: As) b1 post) (hy : yM y (.code y bytes maxL ret) nA) (h1 : Cond.methodLink own index y ∈ yU) (h2 : Cond.instanceMethod y ∈ yU) (h3 : Cond.selects y.cls y y ∈ yU) (jb : Nat) {fs : List Value} {ci : Nat} {TT : u_T} {N : Nat} (hjb : bs[jb]? = some [(bo, .inr (ci, fs))]) (hcl : vwCl[ci]? = some (y.cls, TT, N)) (N0 : Nat) (i1 i2 : List Nat) (hN0 : bs.length = N0) (hp : (i1 ++ i2).isPerm (List.range N0) = true) (h1p : i1.filterMap (fun i => bs[i]?) = b1) (h2p : i2.filterMap (fun i => bs[i]?) = b2) (hst : st = As.reverse ++ .ref bo :: rest) (hA : As.length = nA) (hW : (rest.map fun v => v.category).sum ≤ 8) (hfr : d' + 1 ≤ R.frames) (hlo : 8 + (maxL + 11) + 100 * d' ≤ R.locals) (hc : cells + mc' ≤ R.cells) (hs : slots + ms' ≤ R.slots) (d : decode cc pc = .ok (.invokevirtual index, 3)) (hn : pc + 3 = n) (hpu : ∀ v u, post v u → u = b1) (kk : ∀ v : Option Value, post v b1 → X p l e R s m args below meth c D A H0 nL Q bs (cells + mc') (slots + ms') lv n (v.toList ++ rest)) : X p l e R s m args below meth c D A H0 nL Q bs cells slots lv pc st := by
  intro H locs ls hB hS hl
  subst hst
  obtain ⟨qr, hr0, -⟩ := xw_at bs jb 0 _ _ hjb rfl
  have hBp := hB.eqv (xw_idx i1 i2 (by rw [hN0]; exact hp) h1p h2p)
  refine yw_call (post := post) (va_runV (As := As) (rest := rest) ⟨C.1, C.2.1, C.2.2.1, C.2.2.2.1, C.2.2.2.2.1⟩ (hM H.size) (cwV nA C.2.2.2.2.1 (yg_V hy h1 h2 h3) rfl rfl rfl ⟨rfl, hy.2.2.1, hy.2.2.2.1, hy.2.2.2.2⟩ ⟨hfr, hlo⟩) ⟨yblind, va_recv C.2.2.2.2.2.1.1 hB.1 hcl hr0, yw_pre C hBp hS⟩ rfl hA hl.1 rfl (lv_room hW) d ⟨hc, hs⟩) hBp hS C.2.2.2.2.2.2.1 (fun v u H1 locs1 hw hB1 hS1 => ?_)
  rw [hn]
  have e := hpu v u hw
  subst e
  exact kk v hw H1 locs1 ls (hB1.eqv (xw_idx i1 i2 (by rw [hN0]; exact hp) h1p h2p).symm) hS1 hl
theorem xr_callS (C : YC p s m args c cc own D cy nL A H0) {y : MethodName} {bytes : ByteArray} {maxL index nA d' mc' ms' : Nat} {ret : Option FieldType} {b1 b2 : List va_W} {As rest : List Value} {post : Option Value → List va_W → Prop} (hM : YM l D cy y (.code y bytes maxL ret) d' mc' ms' As b1 post) (hy : yM y (.code y bytes maxL ret) nA) (h1 : Cond.methodLink own index y ∈ yU) (h2 : Cond.static y ∈ yU) (N0 : Nat) (i1 i2 : List Nat) (hN0 : bs.length = N0) (hp : (i1 ++ i2).isPerm (List.range N0) = true) (h1p : i1.filterMap (fun i => bs[i]?) = b1) (h2p : i2.filterMap (fun i => bs[i]?) = b2) (hst : st = As.reverse ++ rest) (hA : As.length = nA) (hW : (rest.map fun v => v.category).sum ≤ 8) (hfr : d' + 1 ≤ R.frames) (hlo : 8 + (maxL + 11) + 100 * d' ≤ R.locals) (hc : cells + mc' ≤ R.cells) (hs : slots + ms' ≤ R.slots) (d : decode cc pc = .ok (.invokestatic index, 3)) (hn : pc + 3 = n) (kk : ∀ (v : Option Value) (u : List va_W), post v u → X p l e R s m args below meth c D A H0 nL Q (u ++ b2) (cells + mc') (slots + ms') lv n (v.toList ++ rest)) : X p l e R s m args below meth c D A H0 nL Q bs cells slots lv pc st := by
  intro H locs ls hB hS hl
  subst hst
  have hBp := hB.eqv (xw_idx i1 i2 (by rw [hN0]; exact hp) h1p h2p)
  refine yw_call (post := post) (va_runS (As := As) (rest := rest) ⟨C.1, C.2.1, C.2.2.1, C.2.2.2.1, C.2.2.2.2.1⟩ (hM H.size) (va_cwS nA C.2.2.2.2.1 (yg_S hy h1 h2) rfl rfl rfl ⟨hy.2.2.1, hy.2.2.2.1, hy.2.2.2.2⟩ ⟨hfr, hlo⟩) ⟨yblind, yw_pre C hBp hS⟩ rfl hA hl.1 rfl (lv_room hW) d ⟨hc, hs⟩) hBp hS C.2.2.2.2.2.2.1 (fun v u H1 locs1 hw hB1 hS1 => ?_)
  rw [hn]
  exact kk v u hw H1 locs1 ls hB1 hS1 hl
theorem xr_callSp (C : YC p s m args c cc own D cy nL A H0) {y : MethodName} {bytes : ByteArray} {maxL index nA d' mc' ms' : Nat} {ret : Option FieldType} {b1 b2 : List va_W} {As rest : List Value} {post : Option Value → List va_W → Prop} (hM : YM l D cy y (.code y bytes maxL ret) d' mc' ms' As b1 post) (hy : yM y (.code y bytes maxL ret) nA) (h1 : Cond.methodLink own index y ∈ yU) (h2 : Cond.static y ∈ yU) (N0 : Nat) (i1 i2 : List Nat) (hN0 : bs.length = N0) (hp : (i1 ++ i2).isPerm (List.range N0) = true) (h1p : i1.filterMap (fun i => bs[i]?) = b1) (h2p : i2.filterMap (fun i => bs[i]?) = b2) (hst : st = As.reverse ++ rest) (hA : As.length = nA) (hW : (rest.map fun v => v.category).sum ≤ 8) (hfr : d' + 1 ≤ R.frames) (hlo : 8 + (maxL + 11) + 100 * d' ≤ R.locals) (hc : cells + mc' ≤ R.cells) (hs : slots + ms' ≤ R.slots) (d : decode cc pc = .ok (.invokestatic index, 3)) (hn : pc + 3 = n) (hpu : ∀ v u, post v u → u = b1) (kk : ∀ v : Option Value, post v b1 → X p l e R s m args below meth c D A H0 nL Q bs (cells + mc') (slots + ms') lv n (v.toList ++ rest)) : X p l e R s m args below meth c D A H0 nL Q bs cells slots lv pc st := by
  intro H locs ls hB hS hl
  subst hst
  have hBp := hB.eqv (xw_idx i1 i2 (by rw [hN0]; exact hp) h1p h2p)
  refine yw_call (post := post) (va_runS (As := As) (rest := rest) ⟨C.1, C.2.1, C.2.2.1, C.2.2.2.1, C.2.2.2.2.1⟩ (hM H.size) (va_cwS nA C.2.2.2.2.1 (yg_S hy h1 h2) rfl rfl rfl ⟨hy.2.2.1, hy.2.2.2.1, hy.2.2.2.2⟩ ⟨hfr, hlo⟩) ⟨yblind, yw_pre C hBp hS⟩ rfl hA hl.1 rfl (lv_room hW) d ⟨hc, hs⟩) hBp hS C.2.2.2.2.2.2.1 (fun v u H1 locs1 hw hB1 hS1 => ?_)
  rw [hn]
  have e := hpu v u hw
  subst e
  exact kk v hw H1 locs1 ls (hB1.eqv (xw_idx i1 i2 (by rw [hN0]; exact hp) h1p h2p).symm) hS1 hl
theorem xr_callI (C : YC p s m args c cc own D cy nL A H0) {y : MethodName} {bytes : ByteArray} {maxL index nA d' mc' ms' : Nat} {b1 b2 : List va_W} {As rest : List Value} {post : Option Value → List va_W → Prop} {bo : Nat} (hM : YM l D cy y (.code y bytes maxL none) d' mc' ms' (.ref bo :: As) b1 post) (hy : yM y (.code y bytes maxL none) nA) (h1 : Cond.methodLink own index y ∈ yU) (h2 : Cond.instanceMethod y ∈ yU) (h3 : y.name = "<init>") (N0 : Nat) (i1 i2 : List Nat) (hN0 : bs.length = N0) (hp : (i1 ++ i2).isPerm (List.range N0) = true) (h1p : i1.filterMap (fun i => bs[i]?) = b1) (h2p : i2.filterMap (fun i => bs[i]?) = b2) (hst : st = As.reverse ++ .ref bo :: rest) (hA : As.length = nA) (hW : (rest.map fun v => v.category).sum ≤ 8) (hfr : d' + 1 ≤ R.frames) (hlo : 8 + (maxL + 11) + 100 * d' ≤ R.locals) (hc : cells + mc' ≤ R.cells) (hs : slots + ms' ≤ R.slots) (d : decode cc pc = .ok (.invokespecial index, 3)) (hn : pc + 3 = n) (kk : ∀ (v : Option Value) (u : List va_W), post v u → X p l e R s m args below meth c D A H0 nL Q (u ++ b2) (cells + mc') (slots + ms') lv n (v.toList ++ rest)) : X p l e R s m args below meth c D A H0 nL Q bs cells slots lv pc st := by
  intro H locs ls hB hS hl
  subst hst
  have hBp := hB.eqv (xw_idx i1 i2 (by rw [hN0]; exact hp) h1p h2p)
  refine yw_call (post := post) (va_runI (As := As) (rest := rest) ⟨C.1, C.2.1, C.2.2.1, C.2.2.2.1, C.2.2.2.2.1⟩ (hM H.size) (cwI nA C.2.2.2.2.1 (yg (yg_cons hy.1)) rfl rfl rfl (C.2.2.2.2.1 _ hy.2.1) (C.2.2.2.2.1 _ h1) (C.2.2.2.2.1 _ h2) h3 ⟨hy.2.2.1, hy.2.2.2.1, hy.2.2.2.2⟩ ⟨hfr, hlo⟩) ⟨yblind, yw_pre C hBp hS⟩ rfl hA hl.1 rfl (lv_room hW) d ⟨hc, hs⟩) hBp hS C.2.2.2.2.2.2.1 (fun v u H1 locs1 hw hB1 hS1 => ?_)
  rw [hn]
  exact kk v u hw H1 locs1 ls hB1 hS1 hl
theorem xr_callIp (C : YC p s m args c cc own D cy nL A H0) {y : MethodName} {bytes : ByteArray} {maxL index nA d' mc' ms' : Nat} {b1 b2 : List va_W} {As rest : List Value} {post : Option Value → List va_W → Prop} {bo : Nat} (hM : YM l D cy y (.code y bytes maxL none) d' mc' ms' (.ref bo :: As) b1 post) (hy : yM y (.code y bytes maxL none) nA) (h1 : Cond.methodLink own index y ∈ yU) (h2 : Cond.instanceMethod y ∈ yU) (h3 : y.name = "<init>") (N0 : Nat) (i1 i2 : List Nat) (hN0 : bs.length = N0) (hp : (i1 ++ i2).isPerm (List.range N0) = true) (h1p : i1.filterMap (fun i => bs[i]?) = b1) (h2p : i2.filterMap (fun i => bs[i]?) = b2) (hst : st = As.reverse ++ .ref bo :: rest) (hA : As.length = nA) (hW : (rest.map fun v => v.category).sum ≤ 8) (hfr : d' + 1 ≤ R.frames) (hlo : 8 + (maxL + 11) + 100 * d' ≤ R.locals) (hc : cells + mc' ≤ R.cells) (hs : slots + ms' ≤ R.slots) (d : decode cc pc = .ok (.invokespecial index, 3)) (hn : pc + 3 = n) (hpu : ∀ v u, post v u → u = b1) (kk : ∀ v : Option Value, post v b1 → X p l e R s m args below meth c D A H0 nL Q bs (cells + mc') (slots + ms') lv n (v.toList ++ rest)) : X p l e R s m args below meth c D A H0 nL Q bs cells slots lv pc st := by
  intro H locs ls hB hS hl
  subst hst
  have hBp := hB.eqv (xw_idx i1 i2 (by rw [hN0]; exact hp) h1p h2p)
  refine yw_call (post := post) (va_runI (As := As) (rest := rest) ⟨C.1, C.2.1, C.2.2.1, C.2.2.2.1, C.2.2.2.2.1⟩ (hM H.size) (cwI nA C.2.2.2.2.1 (yg (yg_cons hy.1)) rfl rfl rfl (C.2.2.2.2.1 _ hy.2.1) (C.2.2.2.2.1 _ h1) (C.2.2.2.2.1 _ h2) h3 ⟨hy.2.2.1, hy.2.2.2.1, hy.2.2.2.2⟩ ⟨hfr, hlo⟩) ⟨yblind, yw_pre C hBp hS⟩ rfl hA hl.1 rfl (lv_room hW) d ⟨hc, hs⟩) hBp hS C.2.2.2.2.2.2.1 (fun v u H1 locs1 hw hB1 hS1 => ?_)
  rw [hn]
  have e := hpu v u hw
  subst e
  exact kk v hw H1 locs1 ls (hB1.eqv (xw_idx i1 i2 (by rw [hN0]; exact hp) h1p h2p).symm) hS1 hl
theorem xr_callIN (C : YC p s m args c cc own D cy nL A H0) {y : MethodName} {bytes : ByteArray} {maxL index nA d' mc' ms' : Nat} {b1 b2 : List va_W} {As rest : List Value} {post : Option Value → List va_W → Prop} {bo : Nat} (hM : YM l D cy y (.code y bytes maxL none) d' mc' ms' (.ref bo :: As) b1 post) (hy : yM y (.code y bytes maxL none) nA) {host : String} (h1 : Cond.methodLinkNest own index y host ∈ xn_nw) (h2 : Cond.instanceMethod y ∈ yU) (h3 : y.name = "<init>") (N0 : Nat) (i1 i2 : List Nat) (hN0 : bs.length = N0) (hp : (i1 ++ i2).isPerm (List.range N0) = true) (h1p : i1.filterMap (fun i => bs[i]?) = b1) (h2p : i2.filterMap (fun i => bs[i]?) = b2) (hst : st = As.reverse ++ .ref bo :: rest) (hA : As.length = nA) (hW : (rest.map fun v => v.category).sum ≤ 8) (hfr : d' + 1 ≤ R.frames) (hlo : 8 + (maxL + 11) + 100 * d' ≤ R.locals) (hc : cells + mc' ≤ R.cells) (hs : slots + ms' ≤ R.slots) (d : decode cc pc = .ok (.invokespecial index, 3)) (hn : pc + 3 = n) (kk : ∀ (v : Option Value) (u : List va_W), post v u → X p l e R s m args below meth c D A H0 nL Q (u ++ b2) (cells + mc') (slots + ms') lv n (v.toList ++ rest)) : X p l e R s m args below meth c D A H0 nL Q bs cells slots lv pc st := by
  intro H locs ls hB hS hl
  subst hst
  have hBp := hB.eqv (xw_idx i1 i2 (by rw [hN0]; exact hp) h1p h2p)
  refine yw_call (post := post) (va_runIN (As := As) (rest := rest) ⟨C.1, C.2.1, C.2.2.1, C.2.2.2.1, C.2.2.2.2.1⟩ (hM H.size) (⟨va_cnB nA C.2.2.2.2.1 (yg (yg_cons hy.1)) rfl rfl rfl (C.2.2.2.2.2.1.2.1 _ h1) (C.2.2.2.2.1 _ hy.2.1) ⟨hy.2.2.1, hy.2.2.2.1, hy.2.2.2.2⟩ ⟨hfr, hlo⟩, h3, C.2.2.2.2.1 _ h2⟩) ⟨yblind, yw_pre C hBp hS⟩ rfl hA hl.1 rfl (lv_room hW) d ⟨hc, hs⟩) hBp hS C.2.2.2.2.2.2.1 (fun v u H1 locs1 hw hB1 hS1 => ?_)
  rw [hn]
  exact kk v u hw H1 locs1 ls hB1 hS1 hl
theorem xr_callINp (C : YC p s m args c cc own D cy nL A H0) {y : MethodName} {bytes : ByteArray} {maxL index nA d' mc' ms' : Nat} {b1 b2 : List va_W} {As rest : List Value} {post : Option Value → List va_W → Prop} {bo : Nat} (hM : YM l D cy y (.code y bytes maxL none) d' mc' ms' (.ref bo :: As) b1 post) (hy : yM y (.code y bytes maxL none) nA) {host : String} (h1 : Cond.methodLinkNest own index y host ∈ xn_nw) (h2 : Cond.instanceMethod y ∈ yU) (h3 : y.name = "<init>") (N0 : Nat) (i1 i2 : List Nat) (hN0 : bs.length = N0) (hp : (i1 ++ i2).isPerm (List.range N0) = true) (h1p : i1.filterMap (fun i => bs[i]?) = b1) (h2p : i2.filterMap (fun i => bs[i]?) = b2) (hst : st = As.reverse ++ .ref bo :: rest) (hA : As.length = nA) (hW : (rest.map fun v => v.category).sum ≤ 8) (hfr : d' + 1 ≤ R.frames) (hlo : 8 + (maxL + 11) + 100 * d' ≤ R.locals) (hc : cells + mc' ≤ R.cells) (hs : slots + ms' ≤ R.slots) (d : decode cc pc = .ok (.invokespecial index, 3)) (hn : pc + 3 = n) (hpu : ∀ v u, post v u → u = b1) (kk : ∀ v : Option Value, post v b1 → X p l e R s m args below meth c D A H0 nL Q bs (cells + mc') (slots + ms') lv n (v.toList ++ rest)) : X p l e R s m args below meth c D A H0 nL Q bs cells slots lv pc st := by
  intro H locs ls hB hS hl
  subst hst
  have hBp := hB.eqv (xw_idx i1 i2 (by rw [hN0]; exact hp) h1p h2p)
  refine yw_call (post := post) (va_runIN (As := As) (rest := rest) ⟨C.1, C.2.1, C.2.2.1, C.2.2.2.1, C.2.2.2.2.1⟩ (hM H.size) (⟨va_cnB nA C.2.2.2.2.1 (yg (yg_cons hy.1)) rfl rfl rfl (C.2.2.2.2.2.1.2.1 _ h1) (C.2.2.2.2.1 _ hy.2.1) ⟨hy.2.2.1, hy.2.2.2.1, hy.2.2.2.2⟩ ⟨hfr, hlo⟩, h3, C.2.2.2.2.1 _ h2⟩) ⟨yblind, yw_pre C hBp hS⟩ rfl hA hl.1 rfl (lv_room hW) d ⟨hc, hs⟩) hBp hS C.2.2.2.2.2.2.1 (fun v u H1 locs1 hw hB1 hS1 => ?_)
  rw [hn]
  have e := hpu v u hw
  subst e
  exact kk v hw H1 locs1 ls (hB1.eqv (xw_idx i1 i2 (by rw [hN0]; exact hp) h1p h2p).symm) hS1 hl
theorem xr_callSN (C : YC p s m args c cc own D cy nL A H0) {y : MethodName} {bytes : ByteArray} {maxL index nA d' mc' ms' : Nat} {ret : Option FieldType} {b1 b2 : List va_W} {As rest : List Value} {post : Option Value → List va_W → Prop} (hM : YM l D cy y (.code y bytes maxL ret) d' mc' ms' As b1 post) (hy : yM y (.code y bytes maxL ret) nA) {host : String} (h1 : Cond.methodLinkNest own index y host ∈ xn_nw) (h2 : Cond.static y ∈ yU) (N0 : Nat) (i1 i2 : List Nat) (hN0 : bs.length = N0) (hp : (i1 ++ i2).isPerm (List.range N0) = true) (h1p : i1.filterMap (fun i => bs[i]?) = b1) (h2p : i2.filterMap (fun i => bs[i]?) = b2) (hst : st = As.reverse ++ rest) (hA : As.length = nA) (hW : (rest.map fun v => v.category).sum ≤ 8) (hfr : d' + 1 ≤ R.frames) (hlo : 8 + (maxL + 11) + 100 * d' ≤ R.locals) (hc : cells + mc' ≤ R.cells) (hs : slots + ms' ≤ R.slots) (d : decode cc pc = .ok (.invokestatic index, 3)) (hn : pc + 3 = n) (kk : ∀ (v : Option Value) (u : List va_W), post v u → X p l e R s m args below meth c D A H0 nL Q (u ++ b2) (cells + mc') (slots + ms') lv n (v.toList ++ rest)) : X p l e R s m args below meth c D A H0 nL Q bs cells slots lv pc st := by
  intro H locs ls hB hS hl
  subst hst
  have hBp := hB.eqv (xw_idx i1 i2 (by rw [hN0]; exact hp) h1p h2p)
  refine yw_call (post := post) (va_runSN (As := As) (rest := rest) ⟨C.1, C.2.1, C.2.2.1, C.2.2.2.1, C.2.2.2.2.1⟩ (hM H.size) (⟨va_cnB nA C.2.2.2.2.1 (yg (yg_cons hy.1)) rfl rfl rfl (C.2.2.2.2.2.1.2.1 _ h1) (C.2.2.2.2.1 _ hy.2.1) ⟨hy.2.2.1, hy.2.2.2.1, hy.2.2.2.2⟩ ⟨hfr, hlo⟩, C.2.2.2.2.1 _ h2, trivial⟩) ⟨yblind, yw_pre C hBp hS⟩ rfl hA hl.1 rfl (lv_room hW) d ⟨hc, hs⟩) hBp hS C.2.2.2.2.2.2.1 (fun v u H1 locs1 hw hB1 hS1 => ?_)
  rw [hn]
  exact kk v u hw H1 locs1 ls hB1 hS1 hl
theorem xr_callSNp (C : YC p s m args c cc own D cy nL A H0) {y : MethodName} {bytes : ByteArray} {maxL index nA d' mc' ms' : Nat} {ret : Option FieldType} {b1 b2 : List va_W} {As rest : List Value} {post : Option Value → List va_W → Prop} (hM : YM l D cy y (.code y bytes maxL ret) d' mc' ms' As b1 post) (hy : yM y (.code y bytes maxL ret) nA) {host : String} (h1 : Cond.methodLinkNest own index y host ∈ xn_nw) (h2 : Cond.static y ∈ yU) (N0 : Nat) (i1 i2 : List Nat) (hN0 : bs.length = N0) (hp : (i1 ++ i2).isPerm (List.range N0) = true) (h1p : i1.filterMap (fun i => bs[i]?) = b1) (h2p : i2.filterMap (fun i => bs[i]?) = b2) (hst : st = As.reverse ++ rest) (hA : As.length = nA) (hW : (rest.map fun v => v.category).sum ≤ 8) (hfr : d' + 1 ≤ R.frames) (hlo : 8 + (maxL + 11) + 100 * d' ≤ R.locals) (hc : cells + mc' ≤ R.cells) (hs : slots + ms' ≤ R.slots) (d : decode cc pc = .ok (.invokestatic index, 3)) (hn : pc + 3 = n) (hpu : ∀ v u, post v u → u = b1) (kk : ∀ v : Option Value, post v b1 → X p l e R s m args below meth c D A H0 nL Q bs (cells + mc') (slots + ms') lv n (v.toList ++ rest)) : X p l e R s m args below meth c D A H0 nL Q bs cells slots lv pc st := by
  intro H locs ls hB hS hl
  subst hst
  have hBp := hB.eqv (xw_idx i1 i2 (by rw [hN0]; exact hp) h1p h2p)
  refine yw_call (post := post) (va_runSN (As := As) (rest := rest) ⟨C.1, C.2.1, C.2.2.1, C.2.2.2.1, C.2.2.2.2.1⟩ (hM H.size) (⟨va_cnB nA C.2.2.2.2.1 (yg (yg_cons hy.1)) rfl rfl rfl (C.2.2.2.2.2.1.2.1 _ h1) (C.2.2.2.2.1 _ hy.2.1) ⟨hy.2.2.1, hy.2.2.2.1, hy.2.2.2.2⟩ ⟨hfr, hlo⟩, C.2.2.2.2.1 _ h2, trivial⟩) ⟨yblind, yw_pre C hBp hS⟩ rfl hA hl.1 rfl (lv_room hW) d ⟨hc, hs⟩) hBp hS C.2.2.2.2.2.2.1 (fun v u H1 locs1 hw hB1 hS1 => ?_)
  rw [hn]
  have e := hpu v u hw
  subst e
  exact kk v hw H1 locs1 ls (hB1.eqv (xw_idx i1 i2 (by rw [hN0]; exact hp) h1p h2p).symm) hS1 hl
theorem xr_callU (C : YC p s m args c cc own D cy nL A H0) {y : MethodName} {bytes : ByteArray} {maxL index nA d' mc' ms' : Nat} {ret : Option FieldType} {b1 b2 : List va_W} {As rest : List Value} {post : Option Value → List va_W → Prop} {bo : Nat} (hM : YM l D cy y (.code y bytes maxL ret) d' mc' ms' (.ref bo :: As) b1 post) (hy : yM y (.code y bytes maxL ret) nA) (h1 : Cond.methodLink own index y ∈ yU) (h4 : Cond.instanceMethod y ∈ yU) (h2 : Cond.sameMethod y.cls y.cls y.name y.desc ∈ yU) (jb : Nat) {fs : List Value} {ci : Nat} {TT : u_T} {N : Nat} {CC : String} (hjb : bs[jb]? = some [(bo, .inr (ci, fs))]) (hcl : vwCl[ci]? = some (CC, TT, N)) (h3 : (Cond.selects CC y y).before args s = true) (N0 : Nat) (i1 i2 : List Nat) (hN0 : bs.length = N0) (hp : (i1 ++ i2).isPerm (List.range N0) = true) (h1p : i1.filterMap (fun i => bs[i]?) = b1) (h2p : i2.filterMap (fun i => bs[i]?) = b2) (hst : st = As.reverse ++ .ref bo :: rest) (hA : As.length = nA) (hW : (rest.map fun v => v.category).sum ≤ 8) (hfr : d' + 1 ≤ R.frames) (hlo : 8 + (maxL + 11) + 100 * d' ≤ R.locals) (hc : cells + mc' ≤ R.cells) (hs : slots + ms' ≤ R.slots) (d : decode cc pc = .ok (.invokevirtual index, 3)) (hn : pc + 3 = n) (kk : ∀ (v : Option Value) (u : List va_W), post v u → X p l e R s m args below meth c D A H0 nL Q (u ++ b2) (cells + mc') (slots + ms') lv n (v.toList ++ rest)) : X p l e R s m args below meth c D A H0 nL Q bs cells slots lv pc st := by
  intro H locs ls hB hS hl
  subst hst
  obtain ⟨qr, hr0, -⟩ := xw_at bs jb 0 _ _ hjb rfl
  have hBp := hB.eqv (xw_idx i1 i2 (by rw [hN0]; exact hp) h1p h2p)
  refine yw_call (post := post) (va_runU (As := As) (rest := rest) ⟨C.1, C.2.1, C.2.2.1, C.2.2.2.1, C.2.2.2.2.1⟩ (hM H.size) (va_cwU (C := CC) (owner := y.cls) (Ts := Cond.selects CC y y :: yU) nA (List.forall_mem_cons.mpr ⟨h3, C.2.2.2.2.1⟩) (yg_U hy h1 h2 h4) rfl rfl rfl rfl ⟨hy.2.2.1, hy.2.2.2.1, hy.2.2.2.2⟩ ⟨hfr, hlo⟩) ⟨yblind, va_recv C.2.2.2.2.2.1.1 hB.1 hcl hr0, yw_pre C hBp hS⟩ rfl hA hl.1 rfl (lv_room hW) d ⟨hc, hs⟩) hBp hS C.2.2.2.2.2.2.1 (fun v u H1 locs1 hw hB1 hS1 => ?_)
  rw [hn]
  exact kk v u hw H1 locs1 ls hB1 hS1 hl
theorem xr_callUp (C : YC p s m args c cc own D cy nL A H0) {y : MethodName} {bytes : ByteArray} {maxL index nA d' mc' ms' : Nat} {ret : Option FieldType} {b1 b2 : List va_W} {As rest : List Value} {post : Option Value → List va_W → Prop} {bo : Nat} (hM : YM l D cy y (.code y bytes maxL ret) d' mc' ms' (.ref bo :: As) b1 post) (hy : yM y (.code y bytes maxL ret) nA) (h1 : Cond.methodLink own index y ∈ yU) (h4 : Cond.instanceMethod y ∈ yU) (h2 : Cond.sameMethod y.cls y.cls y.name y.desc ∈ yU) (jb : Nat) {fs : List Value} {ci : Nat} {TT : u_T} {N : Nat} {CC : String} (hjb : bs[jb]? = some [(bo, .inr (ci, fs))]) (hcl : vwCl[ci]? = some (CC, TT, N)) (h3 : (Cond.selects CC y y).before args s = true) (N0 : Nat) (i1 i2 : List Nat) (hN0 : bs.length = N0) (hp : (i1 ++ i2).isPerm (List.range N0) = true) (h1p : i1.filterMap (fun i => bs[i]?) = b1) (h2p : i2.filterMap (fun i => bs[i]?) = b2) (hst : st = As.reverse ++ .ref bo :: rest) (hA : As.length = nA) (hW : (rest.map fun v => v.category).sum ≤ 8) (hfr : d' + 1 ≤ R.frames) (hlo : 8 + (maxL + 11) + 100 * d' ≤ R.locals) (hc : cells + mc' ≤ R.cells) (hs : slots + ms' ≤ R.slots) (d : decode cc pc = .ok (.invokevirtual index, 3)) (hn : pc + 3 = n) (hpu : ∀ v u, post v u → u = b1) (kk : ∀ v : Option Value, post v b1 → X p l e R s m args below meth c D A H0 nL Q bs (cells + mc') (slots + ms') lv n (v.toList ++ rest)) : X p l e R s m args below meth c D A H0 nL Q bs cells slots lv pc st := by
  intro H locs ls hB hS hl
  subst hst
  obtain ⟨qr, hr0, -⟩ := xw_at bs jb 0 _ _ hjb rfl
  have hBp := hB.eqv (xw_idx i1 i2 (by rw [hN0]; exact hp) h1p h2p)
  refine yw_call (post := post) (va_runU (As := As) (rest := rest) ⟨C.1, C.2.1, C.2.2.1, C.2.2.2.1, C.2.2.2.2.1⟩ (hM H.size) (va_cwU (C := CC) (owner := y.cls) (Ts := Cond.selects CC y y :: yU) nA (List.forall_mem_cons.mpr ⟨h3, C.2.2.2.2.1⟩) (yg_U hy h1 h2 h4) rfl rfl rfl rfl ⟨hy.2.2.1, hy.2.2.2.1, hy.2.2.2.2⟩ ⟨hfr, hlo⟩) ⟨yblind, va_recv C.2.2.2.2.2.1.1 hB.1 hcl hr0, yw_pre C hBp hS⟩ rfl hA hl.1 rfl (lv_room hW) d ⟨hc, hs⟩) hBp hS C.2.2.2.2.2.2.1 (fun v u H1 locs1 hw hB1 hS1 => ?_)
  rw [hn]
  have e := hpu v u hw
  subst e
  exact kk v hw H1 locs1 ls (hB1.eqv (xw_idx i1 i2 (by rw [hN0]; exact hp) h1p h2p).symm) hS1 hl
theorem xr_callO (C : YC p s m args c cc own D cy nL A H0) {y : MethodName} {bytes : ByteArray} {maxL index nA d' mc' ms' : Nat} {ret : Option FieldType} {b1 b2 : List va_W} {As rest : List Value} {post : Option Value → List va_W → Prop} {bo : Nat} (hM : YM l D cy y (.code y bytes maxL ret) d' mc' ms' (.ref bo :: As) b1 post) (hy : yM y (.code y bytes maxL ret) nA) {x : MethodName} {b0 : ByteArray} {m0 : Nat} {r0 : Option FieldType} (h1 : Cond.methodLink own index x ∈ yU) (h4 : Cond.instanceMethod y ∈ yU) (h2 : Cond.sameMethod x.cls x.cls x.name x.desc ∈ yU) (h5 : Cond.instanceMethod x ∈ yU) (h0 : Cond.code x b0 m0 r0 ∈ yU) (hx : x.cls ≠ "java/lang/invoke/MethodHandle" ∧ x.cls ≠ "java/lang/invoke/VarHandle" ∧ (parseMethodDescriptor x.desc).map (fun d => d.parameters.length) = some nA) (jb : Nat) {fs : List Value} {ci : Nat} {TT : u_T} {N : Nat} {CC : String} (hjb : bs[jb]? = some [(bo, .inr (ci, fs))]) (hcl : vwCl[ci]? = some (CC, TT, N)) (h3 : Cond.selects CC x y ∈ yU) (N0 : Nat) (i1 i2 : List Nat) (hN0 : bs.length = N0) (hp : (i1 ++ i2).isPerm (List.range N0) = true) (h1p : i1.filterMap (fun i => bs[i]?) = b1) (h2p : i2.filterMap (fun i => bs[i]?) = b2) (hst : st = As.reverse ++ .ref bo :: rest) (hA : As.length = nA) (hW : (rest.map fun v => v.category).sum ≤ 8) (hfr : d' + 1 ≤ R.frames) (hlo : 8 + (maxL + 11) + 100 * d' ≤ R.locals) (hc : cells + mc' ≤ R.cells) (hs : slots + ms' ≤ R.slots) (d : decode cc pc = .ok (.invokevirtual index, 3)) (hn : pc + 3 = n) (kk : ∀ (v : Option Value) (u : List va_W), post v u → X p l e R s m args below meth c D A H0 nL Q (u ++ b2) (cells + mc') (slots + ms') lv n (v.toList ++ rest)) : X p l e R s m args below meth c D A H0 nL Q bs cells slots lv pc st := by
  intro H locs ls hB hS hl
  subst hst
  obtain ⟨qr, hr0, -⟩ := xw_at bs jb 0 _ _ hjb rfl
  have hBp := hB.eqv (xw_idx i1 i2 (by rw [hN0]; exact hp) h1p h2p)
  refine yw_call (post := post) (va_runU (As := As) (rest := rest) ⟨C.1, C.2.1, C.2.2.1, C.2.2.2.1, C.2.2.2.2.1⟩ (hM H.size) (va_cwO (C := CC) (owner := x.cls) nA C.2.2.2.2.1 (yg_O hy h1 h2 h5 h3 h4) rfl rfl rfl h0 hx ⟨hfr, hlo⟩) ⟨yblind, va_recv C.2.2.2.2.2.1.1 hB.1 hcl hr0, yw_pre C hBp hS⟩ rfl hA hl.1 rfl (lv_room hW) d ⟨hc, hs⟩) hBp hS C.2.2.2.2.2.2.1 (fun v u H1 locs1 hw hB1 hS1 => ?_)
  rw [hn]
  exact kk v u hw H1 locs1 ls hB1 hS1 hl
theorem xr_callOp (C : YC p s m args c cc own D cy nL A H0) {y : MethodName} {bytes : ByteArray} {maxL index nA d' mc' ms' : Nat} {ret : Option FieldType} {b1 b2 : List va_W} {As rest : List Value} {post : Option Value → List va_W → Prop} {bo : Nat} (hM : YM l D cy y (.code y bytes maxL ret) d' mc' ms' (.ref bo :: As) b1 post) (hy : yM y (.code y bytes maxL ret) nA) {x : MethodName} {b0 : ByteArray} {m0 : Nat} {r0 : Option FieldType} (h1 : Cond.methodLink own index x ∈ yU) (h4 : Cond.instanceMethod y ∈ yU) (h2 : Cond.sameMethod x.cls x.cls x.name x.desc ∈ yU) (h5 : Cond.instanceMethod x ∈ yU) (h0 : Cond.code x b0 m0 r0 ∈ yU) (hx : x.cls ≠ "java/lang/invoke/MethodHandle" ∧ x.cls ≠ "java/lang/invoke/VarHandle" ∧ (parseMethodDescriptor x.desc).map (fun d => d.parameters.length) = some nA) (jb : Nat) {fs : List Value} {ci : Nat} {TT : u_T} {N : Nat} {CC : String} (hjb : bs[jb]? = some [(bo, .inr (ci, fs))]) (hcl : vwCl[ci]? = some (CC, TT, N)) (h3 : Cond.selects CC x y ∈ yU) (N0 : Nat) (i1 i2 : List Nat) (hN0 : bs.length = N0) (hp : (i1 ++ i2).isPerm (List.range N0) = true) (h1p : i1.filterMap (fun i => bs[i]?) = b1) (h2p : i2.filterMap (fun i => bs[i]?) = b2) (hst : st = As.reverse ++ .ref bo :: rest) (hA : As.length = nA) (hW : (rest.map fun v => v.category).sum ≤ 8) (hfr : d' + 1 ≤ R.frames) (hlo : 8 + (maxL + 11) + 100 * d' ≤ R.locals) (hc : cells + mc' ≤ R.cells) (hs : slots + ms' ≤ R.slots) (d : decode cc pc = .ok (.invokevirtual index, 3)) (hn : pc + 3 = n) (hpu : ∀ v u, post v u → u = b1) (kk : ∀ v : Option Value, post v b1 → X p l e R s m args below meth c D A H0 nL Q bs (cells + mc') (slots + ms') lv n (v.toList ++ rest)) : X p l e R s m args below meth c D A H0 nL Q bs cells slots lv pc st := by
  intro H locs ls hB hS hl
  subst hst
  obtain ⟨qr, hr0, -⟩ := xw_at bs jb 0 _ _ hjb rfl
  have hBp := hB.eqv (xw_idx i1 i2 (by rw [hN0]; exact hp) h1p h2p)
  refine yw_call (post := post) (va_runU (As := As) (rest := rest) ⟨C.1, C.2.1, C.2.2.1, C.2.2.2.1, C.2.2.2.2.1⟩ (hM H.size) (va_cwO (C := CC) (owner := x.cls) nA C.2.2.2.2.1 (yg_O hy h1 h2 h5 h3 h4) rfl rfl rfl h0 hx ⟨hfr, hlo⟩) ⟨yblind, va_recv C.2.2.2.2.2.1.1 hB.1 hcl hr0, yw_pre C hBp hS⟩ rfl hA hl.1 rfl (lv_room hW) d ⟨hc, hs⟩) hBp hS C.2.2.2.2.2.2.1 (fun v u H1 locs1 hw hB1 hS1 => ?_)
  rw [hn]
  have e := hpu v u hw
  subst e
  exact kk v hw H1 locs1 ls (hB1.eqv (xw_idx i1 i2 (by rw [hN0]; exact hp) h1p h2p).symm) hS1 hl
theorem xr_callSU (C : YC p s m args c cc own D cy nL A H0) {y : MethodName} {bytes : ByteArray} {maxL index nA d' mc' ms' : Nat} {ret : Option FieldType} {b1 b2 : List va_W} {As rest : List Value} {post : Option Value → List va_W → Prop} {bo : Nat} (hM : YM l D cy y (.code y bytes maxL ret) d' mc' ms' (.ref bo :: As) b1 post) (hy : yM y (.code y bytes maxL ret) nA) (h1 : Cond.methodLink own index y ∈ yU) (h4 : Cond.instanceMethod y ∈ yU) (h2 : Cond.sameMethod y.cls y.cls y.name y.desc ∈ yU) (h3 : Cond.superclass own y.cls ∈ yU) (hno : y.name ≠ "<init>") (jb : Nat) {fs : List Value} {ci : Nat} {TT : u_T} {N : Nat} {CC : String} (hjb : bs[jb]? = some [(bo, .inr (ci, fs))]) (hcl : vwCl[ci]? = some (CC, TT, N)) (N0 : Nat) (i1 i2 : List Nat) (hN0 : bs.length = N0) (hp : (i1 ++ i2).isPerm (List.range N0) = true) (h1p : i1.filterMap (fun i => bs[i]?) = b1) (h2p : i2.filterMap (fun i => bs[i]?) = b2) (hst : st = As.reverse ++ .ref bo :: rest) (hA : As.length = nA) (hW : (rest.map fun v => v.category).sum ≤ 8) (hfr : d' + 1 ≤ R.frames) (hlo : 8 + (maxL + 11) + 100 * d' ≤ R.locals) (hc : cells + mc' ≤ R.cells) (hs : slots + ms' ≤ R.slots) (d : decode cc pc = .ok (.invokespecial index, 3)) (hn : pc + 3 = n) (kk : ∀ (v : Option Value) (u : List va_W), post v u → X p l e R s m args below meth c D A H0 nL Q (u ++ b2) (cells + mc') (slots + ms') lv n (v.toList ++ rest)) : X p l e R s m args below meth c D A H0 nL Q bs cells slots lv pc st := by
  intro H locs ls hB hS hl
  subst hst
  obtain ⟨qr, hr0, -⟩ := xw_at bs jb 0 _ _ hjb rfl
  have hBp := hB.eqv (xw_idx i1 i2 (by rw [hN0]; exact hp) h1p h2p)
  refine yw_call (post := post) (va_runSU (C.2.2.2.2.2.1.1.1 ci _ hcl).2 (As := As) (rest := rest) ⟨C.1, C.2.1, C.2.2.1, C.2.2.2.1, C.2.2.2.2.1⟩ (hM H.size) (va_cwSU nA C.2.2.2.2.1 (yg_SU hy h1 h2 h3 h4) rfl rfl rfl ⟨hno, hy.2.2.2.2⟩ ⟨hfr, hlo⟩) ⟨yblind, va_recv C.2.2.2.2.2.1.1 hB.1 hcl hr0, yw_pre C hBp hS⟩ rfl hA hl.1 rfl (lv_room hW) d ⟨hc, hs⟩) hBp hS C.2.2.2.2.2.2.1 (fun v u H1 locs1 hw hB1 hS1 => ?_)
  rw [hn]
  exact kk v u hw H1 locs1 ls hB1 hS1 hl
theorem xr_callSUp (C : YC p s m args c cc own D cy nL A H0) {y : MethodName} {bytes : ByteArray} {maxL index nA d' mc' ms' : Nat} {ret : Option FieldType} {b1 b2 : List va_W} {As rest : List Value} {post : Option Value → List va_W → Prop} {bo : Nat} (hM : YM l D cy y (.code y bytes maxL ret) d' mc' ms' (.ref bo :: As) b1 post) (hy : yM y (.code y bytes maxL ret) nA) (h1 : Cond.methodLink own index y ∈ yU) (h4 : Cond.instanceMethod y ∈ yU) (h2 : Cond.sameMethod y.cls y.cls y.name y.desc ∈ yU) (h3 : Cond.superclass own y.cls ∈ yU) (hno : y.name ≠ "<init>") (jb : Nat) {fs : List Value} {ci : Nat} {TT : u_T} {N : Nat} {CC : String} (hjb : bs[jb]? = some [(bo, .inr (ci, fs))]) (hcl : vwCl[ci]? = some (CC, TT, N)) (N0 : Nat) (i1 i2 : List Nat) (hN0 : bs.length = N0) (hp : (i1 ++ i2).isPerm (List.range N0) = true) (h1p : i1.filterMap (fun i => bs[i]?) = b1) (h2p : i2.filterMap (fun i => bs[i]?) = b2) (hst : st = As.reverse ++ .ref bo :: rest) (hA : As.length = nA) (hW : (rest.map fun v => v.category).sum ≤ 8) (hfr : d' + 1 ≤ R.frames) (hlo : 8 + (maxL + 11) + 100 * d' ≤ R.locals) (hc : cells + mc' ≤ R.cells) (hs : slots + ms' ≤ R.slots) (d : decode cc pc = .ok (.invokespecial index, 3)) (hn : pc + 3 = n) (hpu : ∀ v u, post v u → u = b1) (kk : ∀ v : Option Value, post v b1 → X p l e R s m args below meth c D A H0 nL Q bs (cells + mc') (slots + ms') lv n (v.toList ++ rest)) : X p l e R s m args below meth c D A H0 nL Q bs cells slots lv pc st := by
  intro H locs ls hB hS hl
  subst hst
  obtain ⟨qr, hr0, -⟩ := xw_at bs jb 0 _ _ hjb rfl
  have hBp := hB.eqv (xw_idx i1 i2 (by rw [hN0]; exact hp) h1p h2p)
  refine yw_call (post := post) (va_runSU (C.2.2.2.2.2.1.1.1 ci _ hcl).2 (As := As) (rest := rest) ⟨C.1, C.2.1, C.2.2.1, C.2.2.2.1, C.2.2.2.2.1⟩ (hM H.size) (va_cwSU nA C.2.2.2.2.1 (yg_SU hy h1 h2 h3 h4) rfl rfl rfl ⟨hno, hy.2.2.2.2⟩ ⟨hfr, hlo⟩) ⟨yblind, va_recv C.2.2.2.2.2.1.1 hB.1 hcl hr0, yw_pre C hBp hS⟩ rfl hA hl.1 rfl (lv_room hW) d ⟨hc, hs⟩) hBp hS C.2.2.2.2.2.2.1 (fun v u H1 locs1 hw hB1 hS1 => ?_)
  rw [hn]
  have e := hpu v u hw
  subst e
  exact kk v hw H1 locs1 ls (hB1.eqv (xw_idx i1 i2 (by rw [hN0]; exact hp) h1p h2p).symm) hS1 hl
def xn_min (x y : Int32) : Int32 := if y < x then y else x
def xn_max (x y : Int32) : Int32 := if x < y then y else x
theorem xr_objInit (C : YC p s m args c cc own D cy nL A H0) {index a : Nat} (hlink : (Cond.methodLink own index objectInit) ∈ yU) (hinst : (Cond.instanceMethod objectInit) ∈ yU) (hcode : (Cond.code objectInit ⟨#[0xb1]⟩ 1 none) ∈ yU) (hW : (st.map fun v => v.category).sum ≤ 8) (hf : 1 ≤ R.frames) (hlo : 20 ≤ R.locals) (d : decode cc pc = .ok (.invokespecial index, 3)) (hn : pc + 3 = n) (k : X p l e R s m args below meth c D A H0 nL Q bs cells slots lv n st) : X p l e R s m args below meth c D A H0 nL Q bs cells slots lv pc (.ref a :: st) := by
  intro H locs ls hB hS hl
  refine W.objInit C.1 C.2.1 C.2.2.2.1 (C.2.2.2.2.1 _ hlink) (C.2.2.2.2.1 _ hinst) (C.2.2.2.2.1 _ hcode) rfl (by rw [C.2.2.1]; exact hl.1) rfl d hf ?_ ?_
  · have h0 : (F0 m pc ls (Value.ref a :: st)).monitorRoom = 0 := rfl
    omega
  · refine W.eq (g2 := F0 m n ls st) (by rw [← hn]) ?_
    exact k H locs ls hB hS hl
theorem xr_mmin (C : YC p s m args c cc own D cy nL A H0) {index : Nat} {x y : Int32} (w1 : (Cond.methodLink own index Lib.Math.min.name) ∈ yU) (w2 : (Cond.static Lib.Math.min.name) ∈ yU) (w3 : (Cond.initialized "java/lang/Math") ∈ yU) (w4 : (Cond.code Lib.Math.min.name Lib.Math.min.code 2 (some .int)) ∈ yU) (hf : 1 ≤ R.frames) (hlo : (st.map fun v => v.category).sum + 13 ≤ R.locals) (hc : cells ≤ R.cells) (hs : slots ≤ R.slots) (d : decode cc pc = .ok (.invokestatic index, 3)) (hn : pc + 3 = n) (k : X p l e R s m args below meth c D A H0 nL Q bs cells slots lv n (.int (xn_min x y) :: st)) : X p l e R s m args below meth c D A H0 nL Q bs cells slots lv pc (.int y :: .int x :: st) := by
  intro H locs ls hB hS hl
  exact va_mmin C.1 C.2.1 (by rw [C.2.2.1]; exact hl.1.symm) C.2.2.2.1 (C.2.2.2.2.1 _ w1) (C.2.2.2.2.1 _ w2) (C.2.2.2.2.1 _ w3) (C.2.2.2.2.1 _ w4) hf hlo hc hs d (by rw [hn]; exact k H locs ls hB hS hl)
theorem xr_mmax (C : YC p s m args c cc own D cy nL A H0) {index : Nat} {x y : Int32} (w1 : (Cond.methodLink own index Lib.Math.max.name) ∈ yU) (w2 : (Cond.static Lib.Math.max.name) ∈ yU) (w3 : (Cond.initialized "java/lang/Math") ∈ yU) (w4 : (Cond.code Lib.Math.max.name Lib.Math.max.code 2 (some .int)) ∈ yU) (hf : 1 ≤ R.frames) (hlo : (st.map fun v => v.category).sum + 13 ≤ R.locals) (hc : cells ≤ R.cells) (hs : slots ≤ R.slots) (d : decode cc pc = .ok (.invokestatic index, 3)) (hn : pc + 3 = n) (k : X p l e R s m args below meth c D A H0 nL Q bs cells slots lv n (.int (xn_max x y) :: st)) : X p l e R s m args below meth c D A H0 nL Q bs cells slots lv pc (.int y :: .int x :: st) := by
  intro H locs ls hB hS hl
  exact va_mmax C.1 C.2.1 (by rw [C.2.2.1]; exact hl.1.symm) C.2.2.2.1 (C.2.2.2.2.1 _ w1) (C.2.2.2.2.1 _ w2) (C.2.2.2.2.1 _ w3) (C.2.2.2.2.1 _ w4) hf hlo hc hs d (by rw [hn]; exact k H locs ls hB hS hl)
theorem xr_acmp_ne (C : YC p s m args c cc own D cy nL A H0) {off : Int} {tgt : Nat} (N0 b1 b2 : Nat) (i2 : List Nat) {x y : Nat} {e1 e2 : va_E} (hb : [b1, b2].filterMap (fun i => bs[i]?) = [[(x, e1)], [(y, e2)]]) (hN0 : bs.length = N0) (hp : ([b1, b2] ++ i2).isPerm (List.range N0) = true) (d : decode cc pc = .ok (.if_acmp .ne off, 3)) (ht : (pc : Int) + off = (tgt : Int)) (k : X p l e R s m args below meth c D A H0 nL Q bs cells slots lv tgt st) : X p l e R s m args below meth c D A H0 nL Q bs cells slots lv pc (.ref y :: .ref x :: st) := by
  intro H locs ls hB hS hl
  have hB2 : XB D A [[(x, e1)], [(y, e2)]] H := hB.perm (xw_idx [b1, b2] i2 (by rw [hN0]; exact hp) hb rfl)
  have hne : ¬ (some x = some y) := fun e => absurd (hB2.2.1 0 1 (x, e1) (y, e2) rfl rfl (Option.some.inj e)) (by decide)
  exact lv_acmp_ne (rx := some x) (ry := some y) C.1 C.2.1 d ht (fun _ => k H locs ls hB hS hl) (fun e => absurd e hne)
theorem xr_inst (C : YC p s m args c cc own D cy nL A H0) {index a ci N : Nat} {CC : String} {TT : u_T} {fs : List Value} (h1 : Cond.classLink own index CC ∈ yU) (jb : Nat) (hjb : bs[jb]? = some [(a, .inr (ci, fs))]) (hcl : vwCl[ci]? = some (CC, TT, N)) (d : decode cc pc = .ok (.instanceof index, 3)) (hn : pc + 3 = n) (k : X p l e R s m args below meth c D A H0 nL Q bs cells slots lv n (.int 1 :: st)) : X p l e R s m args below meth c D A H0 nL Q bs cells slots lv pc (.ref a :: st) := by
  intro H locs ls hB hS hl
  obtain ⟨qr, hr0, -⟩ := xw_at bs jb 0 _ _ hjb rfl
  exact va_instE C.1 C.2.1 C.2.2.2.1 (C.2.2.2.2.1 _ h1) (va_recv C.2.2.2.2.2.1.1 hB.1 hcl hr0) d (by rw [hn]; exact k H locs ls hB hS hl)
theorem xr_castO (C : YC p s m args c cc own D cy nL A H0) {index a ci N : Nat} {CC : String} {TT : u_T} {fs : List Value} (h1 : Cond.classLink own index CC ∈ yU) (jb : Nat) (hjb : bs[jb]? = some [(a, .inr (ci, fs))]) (hcl : vwCl[ci]? = some (CC, TT, N)) (d : decode cc pc = .ok (.checkcast index, 3)) (hn : pc + 3 = n) (k : X p l e R s m args below meth c D A H0 nL Q bs cells slots lv n (.ref a :: st)) : X p l e R s m args below meth c D A H0 nL Q bs cells slots lv pc (.ref a :: st) := by
  intro H locs ls hB hS hl
  obtain ⟨qr, hr0, -⟩ := xw_at bs jb 0 _ _ hjb rfl
  exact va_castE C.1 C.2.1 C.2.2.2.1 (C.2.2.2.2.1 _ h1) (va_recv C.2.2.2.2.2.1.1 hB.1 hcl hr0) d (by rw [hn]; exact k H locs ls hB hS hl)
end XR
section XG
variable {p : Program} {l : Launch} {e : Env} {R : Room} {s : State} {m : MethodId} {args : Array Value} {below : List Frame} {meth : Method} {c : Code} {cc : ByteArray} {own : String} {D : va_G} {cy : Nat → ClassId} {A : Nat → Prop} {H0 : Heap} {nL : Nat} {Q : State → Prop} {bs : List va_W} {cells slots : Nat} {lv : List (Nat × Value)} {pc n : Nat} {st : List Value}
theorem yc_arr {cA cB : ClassId} {ty : FieldType} (h1 : va_RA s cA ty) (h2 : va_RA s cB ty) (hne : ∀ C, ty ≠ .object C) : cA = cB := by
  cases ty <;> first | exact Option.some.inj (h1.symm.trans h2) | exact absurd rfl (hne _)
theorem yc_ext (cA : ClassId) (N : Nat) {f h : Nat → Option Nat} (e : ∀ i, i < N → f i = h i) : vp_cell cA (N, .inr (.inr (.inr (.inr f)))) = vp_cell cA (N, .inr (.inr (.inr (.inr h)))) := by
  rw [vp_cell_q, vp_cell_q]
  unfold arrV
  congr 1
  apply Array.ext_getElem?
  intro i
  rw [Array.getElem?_ofFn, Array.getElem?_ofFn]
  by_cases hi : i < N
  · simp [hi, e i hi]
  · simp [hi]
/-- an array's contents, as far as it goes -/
theorem XB.cont {D : va_G} {A : Nat → Prop} {bs : List va_W} {H : Heap} {a N : Nat} {cA : ClassId} {f h : Nat → Option Nat} (hB : XB D A bs H) (b : Nat) (hb : bs[b]? = some [(a, .inl (cA, N, .inr (.inr (.inr (.inr f)))))]) (e : ∀ i, i < N → f i = h i) : XB D A (bs.set b [(a, .inl (cA, N, .inr (.inr (.inr (.inr h)))))]) H := by
  obtain ⟨q0, h1, h2⟩ := xw_at bs b 0 _ _ hb rfl
  have h3 := h2 (a, .inl (cA, N, .inr (.inr (.inr (.inr h)))))
  rw [List.set_cons_zero] at h3
  unfold XB
  rw [← h3]
  refine ⟨fun k q hk => ?_, hB.2.set h1⟩
  by_cases e0 : k = q0
  · subst e0
    have hl := (List.getElem?_eq_some_iff.mp h1).1
    rw [List.getElem?_set_self hl] at hk
    cases hk
    have h4 := hB.1 k _ h1
    show H[a]? = some (vp_cell cA (N, _))
    rw [← yc_ext cA N e]
    exact h4
  · rw [List.getElem?_set_ne (fun q => e0 q.symm)] at hk
    exact hB.1 k q hk
theorem xr_cont (C : YC p s m args c cc own D cy nL A H0) {a N : Nat} {cA : ClassId} {f h : Nat → Option Nat} (b : Nat) (hb : bs[b]? = some [(a, .inl (cA, N, .inr (.inr (.inr (.inr f)))))]) (he : ∀ i, i < N → f i = h i) (bs' : List va_W) (hbs : bs.set b [(a, .inl (cA, N, .inr (.inr (.inr (.inr h)))))] = bs') (k : X p l e R s m args below meth c D A H0 nL Q bs' cells slots lv pc st) : X p l e R s m args below meth c D A H0 nL Q bs cells slots lv pc st := fun H locs ls hB hS hl => k H locs ls (hbs ▸ hB.cont b hb he) hS hl
theorem xr_mnaI (C : YC p s m args c cc own D cy nL A H0) {index : Nat} {nm : String} (hcl : Cond.classLink own index nm ∈ yU) (hnm : nm = "[" ++ (FieldType.array .int).toString) (h1 : Cond.arrayClass .int ∈ yU) {x y : Int32} {N' K' cb sb : Nat} (hx : ¬ x < 0) (hy : ¬ y < 0) (hN : x.toNatClampNeg = N') (hK : y.toNatClampNeg = K') (hN9 : N' ≤ 9) (hK9 : K' ≤ 9) (hcb : 1 + N' ≤ cb) (hsb : N' + N' * K' ≤ sb) (hcells : cells + cb ≤ R.cells) (hslots : slots + sb ≤ R.slots) (d : decode cc pc = .ok (.multianewarray index 2, 4)) (hn : pc + 4 = n) (k : ∀ (q : Nat) (ad : Nat → Nat), X p l e R s m args below meth c D A H0 nL Q (bs ++ [[(q, .inl (cy 3, N', .inr (.inr (.inr (.inr (yad ad))))))], xg_rows ad N' (cy 1) K' (fun _ _ => 0)]) (cells + cb) (slots + sb) lv n (.ref q :: st)) : X p l e R s m args below meth c D A H0 nL Q bs cells slots lv pc (.int y :: .int x :: st) := by
  intro H locs ls hB hS hl
  have hco : s.vm.findClass (FieldType.array .int).toString = some (cy 1) := (C.2.2.2.2.2.1.1.2 1 _ rfl).2
  have hP : va_P D vwCl (bs.flatten ++ va_pl [] (fun _ => .inr (0, []))) H := by rw [show va_pl [] (fun _ => (.inr (0, []) : va_E)) = [] from rfl, List.append_nil]; exact hB.1
  have hD : va_D A (bs.flatten ++ va_pl [] (fun _ => .inr (0, []))) := by rw [show va_pl [] (fun _ => (.inr (0, []) : va_E)) = [] from rfl, List.append_nil]; exact hB.2
  have hb2 : K' * componentBytes .int ≤ 536870912 := Nat.le_trans (Nat.mul_le_mul_right _ hK9) (by decide)
  refine va_mna (D := D) (cl := vwCl) (L := []) (f := fun _ => .inr (0, [])) (ty := .int) (z := (K', .inl (fun _ => 0))) C.1 C.2.1 C.2.2.2.1 (by rw [← hnm]; exact C.2.2.2.2.1 _ hcl) C.2.2.2.2.2.1.2.2.2.1 (C.2.2.2.2.1 _ h1) hco C.2.2.2.2.2.1.1 hP hD hS C.2.2.2.2.2.2.1 hx hy hN hK (by omega) hb2 (by omega) rfl rfl (by omega) (by omega) (fun c => by rw [vp_cell_i, ← arrV_new]; rfl) d (fun q ad cA H1 hinj _ hK1 hP1 hD1 hS1 => ?_)
  have e : cA = cy 3 := yc_arr (hK1.2 5 _ rfl).2 (C.2.2.2.2.2.1.1.2 3 _ rfl).2 (fun C h => by cases h)
  subst e
  rw [hn]
  refine W.widen (k := cells + cb) (n := slots + sb) (by omega) (by omega) ?_
  have er : va_pl ([] ++ (List.range N').map ad) (vr_up (fun _ => (.inr (0, []) : va_E)) ((List.range N').map ad) (.inl (cy 1, K', .inl (fun _ => 0)))) = xg_rows ad N' (cy 1) K' (fun _ _ => 0) := by
    unfold va_pl xg_rows
    rw [List.nil_append, List.map_map]
    apply List.map_congr_left
    intro i hi
    have hm : ad i ∈ (List.range N').map ad := List.mem_map.mpr ⟨i, hi, rfl⟩
    show (ad i, vr_up _ _ _ (ad i)) = _
    rw [vr_up_in hm]
  rw [er] at hP1 hD1
  have hB1 : XB D A (bs ++ [[(q, .inl (cy 3, N', .inr (.inr (.inr (.inr (fun i => if i < N' then some (ad i) else none))))))], xg_rows ad N' (cy 1) K' (fun _ _ => 0)]) H1 := by
    unfold XB
    rw [List.flatten_append]
    have e2 : ([[(q, .inl (cy 3, N', .inr (.inr (.inr (.inr (fun i => if i < N' then some (ad i) else none))))))], xg_rows ad N' (cy 1) K' (fun _ _ => 0)] : List va_W).flatten = [(q, .inl (cy 3, N', .inr (.inr (.inr (.inr (fun i => if i < N' then some (ad i) else none))))))] ++ xg_rows ad N' (cy 1) K' (fun _ _ => 0) := by simp
    rw [e2, ← List.append_assoc]
    exact ⟨hP1, hD1⟩
  refine k q ad H1 locs ls ?_ hS1 hl
  have hB2 := hB1.cont (h := yad ad) bs.length (by rw [List.getElem?_append_right (Nat.le_refl _), Nat.sub_self]; rfl) (fun i hi => by rw [if_pos hi]; rfl)
  rw [List.set_append_right _ _ (Nat.le_refl _), Nat.sub_self, List.set_cons_zero] at hB2
  exact hB2
theorem xr_aastI (C : YC p s m args c cc own D cy nL A H0) {a q N M : Nat} {f : Nat → Option Nat} {h : Nat → Int32} {x : Int32} (b i : Nat) {kb : va_W} (hb : bs[b]? = some kb) (hi : kb[i]? = some (a, .inl (cy 3, N, .inr (.inr (.inr (.inr f)))))) (b2 i2 : Nat) {kb2 : va_W} (hb2 : bs[b2]? = some kb2) (hi2 : kb2[i2]? = some (q, .inl (cy 1, M, .inl h))) (hin : vp_in x N) (bs' : List va_W) (hbs : bs.set b (kb.set i (a, .inl (cy 3, N, .inr (.inr (.inr (.inr (va_up f x.toNatClampNeg (some q)))))))) = bs') (d : decode cc pc = .ok (.aastore, 1)) (hn : pc + 1 = n) (k : X p l e R s m args below meth c D A H0 nL Q bs' cells slots lv n st) : X p l e R s m args below meth c D A H0 nL Q bs cells slots lv pc (.ref q :: .int x :: .ref a :: st) := by
  intro H locs ls hB hS hl
  obtain ⟨q0, h1, h2⟩ := xw_at bs b i _ _ hb hi
  obtain ⟨q1, g1, -⟩ := xw_at bs b2 i2 _ _ hb2 hi2
  have hlt : x.toNatClampNeg < N := Nat.not_le.mp fun z => hin (Or.inr z)
  have h0 : ¬ x < 0 := fun z => hin (Or.inl z)
  obtain ⟨comp, c3, k3, f1, f2, f3, f4⟩ := (C.2.2.2.2.2.1.2.2.2.1).facts
  have e3 : c3 = cy 3 := Option.some.inj (f4.symm.trans (C.2.2.2.2.2.1.1.2 3 _ rfl).2)
  have e1 : comp = cy 1 := Option.some.inj (f1.symm.trans (C.2.2.2.2.2.1.1.2 1 _ rfl).2)
  subst e3
  subst e1
  obtain ⟨kc, hkc, -⟩ := Vm.findClass_spec f1
  refine W.aast C.1 C.2.1 (hB.1 q0 _ h1) (fun z h => by cases h) (fun h => by cases h) f2 f3 rfl hkc ⟨h0, by show _ < (arrV _ _ _).slots.size; rw [arrV_size]; exact hlt⟩ (hB.1 q1 _ g1) (fun z h => by cases h) hkc (va_asg _ _) rfl rfl d (fun H1 e z oq => ?_)
  rw [hn]
  refine k H1 _ ls ?_ (hS.put z oq (hB.2.2 q0 _ h1)) hl
  unfold XB
  rw [← hbs, ← h2]
  refine ⟨hB.1.set hB.2 h1 ?_ oq, hB.2.set h1⟩
  show H1[a]? = some (vp_cell _ _)
  rw [e]
  rw [vp_cell_q, vp_cell_q, arrV_store]
  congr 2
  funext j
  by_cases hj : j = x.toNatClampNeg
  · subst hj
    simp [updV, va_up, va_rf]
  · simp [updV, va_up, hj]
theorem xr_cloneI (C : YC p s m args c cc own D cy nL A H0) {a N : Nat} {f : Nat → Int32} {index icl : Nat} (w1 : Cond.methodLink own index ⟨"[I", "clone", "()Ljava/lang/Object;"⟩ ∈ yU) (w2 : Cond.sameMethod "[I" "java/lang/Object" "clone" "()Ljava/lang/Object;" ∈ yU) (w3 : Cond.native ⟨"java/lang/Object", "clone", "()Ljava/lang/Object;"⟩ ∈ yU) (w4 : Cond.instanceMethod ⟨"java/lang/Object", "clone", "()Ljava/lang/Object;"⟩ ∈ yU) (w5 : Cond.selects "[I" ⟨"[I", "clone", "()Ljava/lang/Object;"⟩ ⟨"java/lang/Object", "clone", "()Ljava/lang/Object;"⟩ ∈ yU) (w6 : Cond.castable "[I" "java/lang/Cloneable" ∈ xn_nw) (w7 : Cond.classLink own icl "[I" ∈ yU) (b i : Nat) {kb : va_W} (hb : bs[b]? = some kb) (hi : kb[i]? = some (a, .inl (cy 1, N, .inl f))) (hf : 1 ≤ R.frames) (hlo : (st.map fun v => v.category).sum + 14 ≤ R.locals) (hcells : cells + 1 ≤ R.cells) (hslots : slots + N ≤ R.slots) (d : decode cc pc = .ok (.invokevirtual index, 3)) (d2 : decode cc (pc + 3) = .ok (.checkcast icl, 3)) (hn : pc + 6 = n) (k : ∀ q : Nat, X p l e R s m args below meth c D A H0 nL Q (bs ++ [[(q, .inl (cy 1, N, .inl f))]]) (cells + 1) (slots + N) lv n (.ref q :: st)) : X p l e R s m args below meth c D A H0 nL Q bs cells slots lv pc (.ref a :: st) := by
  intro H locs ls hB hS hl
  obtain ⟨q0, h1, -⟩ := xw_at bs b i _ _ hb hi
  have hnm : s.vm.findClass "[I" = some (cy 1) := (C.2.2.2.2.2.1.1.2 1 _ rfl).2
  refine va_clone (D := D) C.1 C.2.1 (by rw [C.2.2.1]; exact hl.1.symm) C.2.2.2.1 (C.2.2.2.2.1 _ w1) (C.2.2.2.2.1 _ w2) (C.2.2.2.2.1 _ w3) (C.2.2.2.2.1 _ w4) (C.2.2.2.2.1 _ w5) (C.2.2.2.2.2.1.2.1 _ w6) C.2.2.2.2.2.1.1 hB.1 hB.2 hS C.2.2.2.2.2.2.1 q0 1 h1 rfl hnm (fun i v hv => va_fit (F := fun j => .int (f j)) (fun j _ => rfl) i v hv) hf hlo hcells hslots d (fun q H1 hK1 hP1 hD1 hS1 => ?_)
  refine va_castA (D := D) (cl := vwCl) C.1 C.2.1 C.2.2.2.1 (C.2.2.2.2.1 _ w7) hP1 bs.flatten.length (cA := cy 1) (x := (N, .inl f)) (by rw [List.getElem?_append_right (Nat.le_refl _), Nat.sub_self]; rfl) hnm d2 ?_
  rw [show pc + 3 + 3 = n by omega]
  refine k q H1 locs ls ⟨?_, ?_⟩ hS1 hl
  · rw [List.flatten_append]; exact hP1
  · rw [List.flatten_append]; exact hD1
theorem xr_anewI (C : YC p s m args c cc own D cy nL A H0) {index : Nat} {nm : String} (hcl : Cond.classLink own index nm ∈ yU) (hnm : nm = (FieldType.array .int).toString) {x : Int32} {N' : Nat} (hx : ¬ x < 0) (hN : x.toNatClampNeg = N') (hN9 : N' ≤ 9) (hcells : cells + 1 ≤ R.cells) (hslots : slots + 9 ≤ R.slots) (d : decode cc pc = .ok (.anewarray index, 3)) (hn : pc + 3 = n) (k : ∀ (q : Nat), X p l e R s m args below meth c D A H0 nL Q (bs ++ [[(q, .inl (cy 3, N', .inr (.inr (.inr (.inr (fun _ => none))))))]]) (cells + 1) (slots + 9) lv n (.ref q :: st)) : X p l e R s m args below meth c D A H0 nL Q bs cells slots lv pc (.int x :: st) := by
  intro H locs ls hB hS hl
  subst hN
  intro T hT Xs
  obtain ⟨vm₁, cA, kA, comp, hW, f1, f2, f3, f4, X', step⟩ := Jvm.Stand.anewarrayArrK Xs C.1 (ty := .int) C.2.2.2.1 (by rw [← hnm]; exact C.2.2.2.2.1 _ hcl) (va_AOA.use C.2.2.2.2.2.1.2.2.2.1) (g := F0 m pc ls (.int x :: st)) rfl (by rw [C.2.1]; exact d) rfl hx (by omega) hcells (Nat.le_trans (Nat.add_le_add_left hN9 _) hslots)
  have e3 : cA = cy 3 := Option.some.inj (f1.symm.trans (C.2.2.2.2.2.1.1.2 3 _ rfl).2)
  subst e3
  have hP := hB.1
  have hsz : T.heap.size = H.size := by rw [hT]
  have hH1 : ((T.setVm vm₁).pushCell ({ cls := cy 3, slots := Array.replicate x.toNatClampNeg .null, vm := .none } : Cell)).heap = H.push ({ cls := cy 3, slots := Array.replicate x.toNatClampNeg .null, vm := .none } : Cell) := by rw [← hT]; rfl
  generalize hH : H.push ({ cls := cy 3, slots := Array.replicate x.toNatClampNeg .null, vm := .none } : Cell) = H1 at hH1
  have z1 : H1.size = H.size + 1 := by rw [← hH, Array.size_push]
  have e1 : H1[H.size]? = some (arrV (cy 3) x.toNatClampNeg (fun _ => .null)) := by rw [← hH, Array.getElem?_push_size, ← arrV_new]
  have o1 : ∀ q : Nat, q < H.size → H1[q]? = H[q]? := fun q hq => by rw [← hH, Array.getElem?_push, if_neg (Nat.ne_of_lt hq)]
  have hk : ∀ (k : Nat) (y : Nat × va_E), bs.flatten[k]? = some y → H1[y.1]? = H[y.1]? := fun k y hy => o1 y.1 ((hP k y hy).lt)
  have hS1 : va_S A H0 H1 locs := ⟨Nat.le_trans hS.1 (by omega), fun y h1 h2 => (o1 y (Nat.lt_of_lt_of_le h1 hS.1)).trans (hS.2.1 y h1 h2), hS.2.2⟩
  have hB1 : XB D A (bs ++ [[(H.size, .inl (cy 3, x.toNatClampNeg, .inr (.inr (.inr (.inr (fun _ => none))))))]]) H1 := by
    unfold XB
    rw [List.flatten_append]
    refine ⟨(hP.kept hk).app (fun k y hy => ?_), hB.2.push hP rfl (C.2.2.2.2.2.2.1 _ hS.1)⟩
    have hz : k < 1 := (List.getElem?_eq_some_iff.mp hy).1
    rw [show k = 0 by omega] at hy
    cases hy
    show H1[H.size]? = some (vp_cell _ _)
    rw [vp_cell_q]
    exact e1
  obtain ⟨t, a1, b1⟩ := k H.size H1 locs ls hB1 hS1 hl _ hH1 (stand_widen X' (Nat.le_refl _) (Nat.add_le_add_left hN9 _))
  refine ⟨t, step t ?_, b1⟩
  rw [hsz, hn]
  exact a1
theorem xr_mnaZ (C : YC p s m args c cc own D cy nL A H0) {index : Nat} {nm : String} (hcl : Cond.classLink own index nm ∈ yU) (hnm : nm = "[" ++ (FieldType.array .boolean).toString) (h1 : Cond.arrayClass .boolean ∈ yU) {x y : Int32} {N' K' cb sb : Nat} (hx : ¬ x < 0) (hy : ¬ y < 0) (hN : x.toNatClampNeg = N') (hK : y.toNatClampNeg = K') (hN9 : N' ≤ 9) (hK9 : K' ≤ 9) (hcb : 1 + N' ≤ cb) (hsb : N' + N' * K' ≤ sb) (hcells : cells + cb ≤ R.cells) (hslots : slots + sb ≤ R.slots) (d : decode cc pc = .ok (.multianewarray index 2, 4)) (hn : pc + 4 = n) (k : ∀ (q : Nat) (ad : Nat → Nat), X p l e R s m args below meth c D A H0 nL Q (bs ++ [[(q, .inl (cy 4, N', .inr (.inr (.inr (.inr (yad ad))))))], xg_rows ad N' (cy 2) K' (fun _ _ => 0)]) (cells + cb) (slots + sb) lv n (.ref q :: st)) : X p l e R s m args below meth c D A H0 nL Q bs cells slots lv pc (.int y :: .int x :: st) := by
  intro H locs ls hB hS hl
  have hco : s.vm.findClass (FieldType.array .boolean).toString = some (cy 2) := (C.2.2.2.2.2.1.1.2 2 _ rfl).2
  have hP : va_P D vwCl (bs.flatten ++ va_pl [] (fun _ => .inr (0, []))) H := by rw [show va_pl [] (fun _ => (.inr (0, []) : va_E)) = [] from rfl, List.append_nil]; exact hB.1
  have hD : va_D A (bs.flatten ++ va_pl [] (fun _ => .inr (0, []))) := by rw [show va_pl [] (fun _ => (.inr (0, []) : va_E)) = [] from rfl, List.append_nil]; exact hB.2
  have hb2 : K' * componentBytes .boolean ≤ 536870912 := Nat.le_trans (Nat.mul_le_mul_right _ hK9) (by decide)
  refine va_mna (D := D) (cl := vwCl) (L := []) (f := fun _ => .inr (0, [])) (ty := .boolean) (z := (K', .inl (fun _ => 0))) C.1 C.2.1 C.2.2.2.1 (by rw [← hnm]; exact C.2.2.2.2.1 _ hcl) C.2.2.2.2.2.1.2.2.2.2.1 (C.2.2.2.2.1 _ h1) hco C.2.2.2.2.2.1.1 hP hD hS C.2.2.2.2.2.2.1 hx hy hN hK (by omega) hb2 (by omega) rfl rfl (by omega) (by omega) (fun c => by rw [vp_cell_i, ← arrV_new]; rfl) d (fun q ad cA H1 hinj _ hK1 hP1 hD1 hS1 => ?_)
  have e : cA = cy 4 := yc_arr (hK1.2 5 _ rfl).2 (C.2.2.2.2.2.1.1.2 4 _ rfl).2 (fun C h => by cases h)
  subst e
  rw [hn]
  refine W.widen (k := cells + cb) (n := slots + sb) (by omega) (by omega) ?_
  have er : va_pl ([] ++ (List.range N').map ad) (vr_up (fun _ => (.inr (0, []) : va_E)) ((List.range N').map ad) (.inl (cy 2, K', .inl (fun _ => 0)))) = xg_rows ad N' (cy 2) K' (fun _ _ => 0) := by
    unfold va_pl xg_rows
    rw [List.nil_append, List.map_map]
    apply List.map_congr_left
    intro i hi
    have hm : ad i ∈ (List.range N').map ad := List.mem_map.mpr ⟨i, hi, rfl⟩
    show (ad i, vr_up _ _ _ (ad i)) = _
    rw [vr_up_in hm]
  rw [er] at hP1 hD1
  have hB1 : XB D A (bs ++ [[(q, .inl (cy 4, N', .inr (.inr (.inr (.inr (fun i => if i < N' then some (ad i) else none))))))], xg_rows ad N' (cy 2) K' (fun _ _ => 0)]) H1 := by
    unfold XB
    rw [List.flatten_append]
    have e2 : ([[(q, .inl (cy 4, N', .inr (.inr (.inr (.inr (fun i => if i < N' then some (ad i) else none))))))], xg_rows ad N' (cy 2) K' (fun _ _ => 0)] : List va_W).flatten = [(q, .inl (cy 4, N', .inr (.inr (.inr (.inr (fun i => if i < N' then some (ad i) else none))))))] ++ xg_rows ad N' (cy 2) K' (fun _ _ => 0) := by simp
    rw [e2, ← List.append_assoc]
    exact ⟨hP1, hD1⟩
  refine k q ad H1 locs ls ?_ hS1 hl
  have hB2 := hB1.cont (h := yad ad) bs.length (by rw [List.getElem?_append_right (Nat.le_refl _), Nat.sub_self]; rfl) (fun i hi => by rw [if_pos hi]; rfl)
  rw [List.set_append_right _ _ (Nat.le_refl _), Nat.sub_self, List.set_cons_zero] at hB2
  exact hB2
theorem xr_aastZ (C : YC p s m args c cc own D cy nL A H0) {a q N M : Nat} {f : Nat → Option Nat} {h : Nat → Int32} {x : Int32} (b i : Nat) {kb : va_W} (hb : bs[b]? = some kb) (hi : kb[i]? = some (a, .inl (cy 4, N, .inr (.inr (.inr (.inr f)))))) (b2 i2 : Nat) {kb2 : va_W} (hb2 : bs[b2]? = some kb2) (hi2 : kb2[i2]? = some (q, .inl (cy 2, M, .inl h))) (hin : vp_in x N) (bs' : List va_W) (hbs : bs.set b (kb.set i (a, .inl (cy 4, N, .inr (.inr (.inr (.inr (va_up f x.toNatClampNeg (some q)))))))) = bs') (d : decode cc pc = .ok (.aastore, 1)) (hn : pc + 1 = n) (k : X p l e R s m args below meth c D A H0 nL Q bs' cells slots lv n st) : X p l e R s m args below meth c D A H0 nL Q bs cells slots lv pc (.ref q :: .int x :: .ref a :: st) := by
  intro H locs ls hB hS hl
  obtain ⟨q0, h1, h2⟩ := xw_at bs b i _ _ hb hi
  obtain ⟨q1, g1, -⟩ := xw_at bs b2 i2 _ _ hb2 hi2
  have hlt : x.toNatClampNeg < N := Nat.not_le.mp fun z => hin (Or.inr z)
  have h0 : ¬ x < 0 := fun z => hin (Or.inl z)
  obtain ⟨comp, c3, k3, f1, f2, f3, f4⟩ := (C.2.2.2.2.2.1.2.2.2.2.1).facts
  have e3 : c3 = cy 4 := Option.some.inj (f4.symm.trans (C.2.2.2.2.2.1.1.2 4 _ rfl).2)
  have e1 : comp = cy 2 := Option.some.inj (f1.symm.trans (C.2.2.2.2.2.1.1.2 2 _ rfl).2)
  subst e3
  subst e1
  obtain ⟨kc, hkc, -⟩ := Vm.findClass_spec f1
  refine W.aast C.1 C.2.1 (hB.1 q0 _ h1) (fun z h => by cases h) (fun h => by cases h) f2 f3 rfl hkc ⟨h0, by show _ < (arrV _ _ _).slots.size; rw [arrV_size]; exact hlt⟩ (hB.1 q1 _ g1) (fun z h => by cases h) hkc (va_asg _ _) rfl rfl d (fun H1 e z oq => ?_)
  rw [hn]
  refine k H1 _ ls ?_ (hS.put z oq (hB.2.2 q0 _ h1)) hl
  unfold XB
  rw [← hbs, ← h2]
  refine ⟨hB.1.set hB.2 h1 ?_ oq, hB.2.set h1⟩
  show H1[a]? = some (vp_cell _ _)
  rw [e]
  rw [vp_cell_q, vp_cell_q, arrV_store]
  congr 2
  funext j
  by_cases hj : j = x.toNatClampNeg
  · subst hj
    simp [updV, va_up, va_rf]
  · simp [updV, va_up, hj]
theorem xr_cloneZ (C : YC p s m args c cc own D cy nL A H0) {a N : Nat} {f : Nat → Int32} {index icl : Nat} (w1 : Cond.methodLink own index ⟨"[Z", "clone", "()Ljava/lang/Object;"⟩ ∈ yU) (w2 : Cond.sameMethod "[Z" "java/lang/Object" "clone" "()Ljava/lang/Object;" ∈ yU) (w3 : Cond.native ⟨"java/lang/Object", "clone", "()Ljava/lang/Object;"⟩ ∈ yU) (w4 : Cond.instanceMethod ⟨"java/lang/Object", "clone", "()Ljava/lang/Object;"⟩ ∈ yU) (w5 : Cond.selects "[Z" ⟨"[Z", "clone", "()Ljava/lang/Object;"⟩ ⟨"java/lang/Object", "clone", "()Ljava/lang/Object;"⟩ ∈ yU) (w6 : Cond.castable "[Z" "java/lang/Cloneable" ∈ xn_nw) (w7 : Cond.classLink own icl "[Z" ∈ yU) (b i : Nat) {kb : va_W} (hb : bs[b]? = some kb) (hi : kb[i]? = some (a, .inl (cy 2, N, .inl f))) (hft : ∀ j, j < N → fits .boolean (.int (f j)) = true) (hf : 1 ≤ R.frames) (hlo : (st.map fun v => v.category).sum + 14 ≤ R.locals) (hcells : cells + 1 ≤ R.cells) (hslots : slots + N ≤ R.slots) (d : decode cc pc = .ok (.invokevirtual index, 3)) (d2 : decode cc (pc + 3) = .ok (.checkcast icl, 3)) (hn : pc + 6 = n) (k : ∀ q : Nat, X p l e R s m args below meth c D A H0 nL Q (bs ++ [[(q, .inl (cy 2, N, .inl f))]]) (cells + 1) (slots + N) lv n (.ref q :: st)) : X p l e R s m args below meth c D A H0 nL Q bs cells slots lv pc (.ref a :: st) := by
  intro H locs ls hB hS hl
  obtain ⟨q0, h1, -⟩ := xw_at bs b i _ _ hb hi
  have hnm : s.vm.findClass "[Z" = some (cy 2) := (C.2.2.2.2.2.1.1.2 2 _ rfl).2
  refine va_clone (D := D) C.1 C.2.1 (by rw [C.2.2.1]; exact hl.1.symm) C.2.2.2.1 (C.2.2.2.2.1 _ w1) (C.2.2.2.2.1 _ w2) (C.2.2.2.2.1 _ w3) (C.2.2.2.2.1 _ w4) (C.2.2.2.2.1 _ w5) (C.2.2.2.2.2.1.2.1 _ w6) C.2.2.2.2.2.1.1 hB.1 hB.2 hS C.2.2.2.2.2.2.1 q0 2 h1 rfl hnm (fun i v hv => va_fit (F := fun j => .int (f j)) hft i v hv) hf hlo hcells hslots d (fun q H1 hK1 hP1 hD1 hS1 => ?_)
  refine va_castA (D := D) (cl := vwCl) C.1 C.2.1 C.2.2.2.1 (C.2.2.2.2.1 _ w7) hP1 bs.flatten.length (cA := cy 2) (x := (N, .inl f)) (by rw [List.getElem?_append_right (Nat.le_refl _), Nat.sub_self]; rfl) hnm d2 ?_
  rw [show pc + 3 + 3 = n by omega]
  refine k q H1 locs ls ⟨?_, ?_⟩ hS1 hl
  · rw [List.flatten_append]; exact hP1
  · rw [List.flatten_append]; exact hD1
theorem xr_anewZ (C : YC p s m args c cc own D cy nL A H0) {index : Nat} {nm : String} (hcl : Cond.classLink own index nm ∈ yU) (hnm : nm = (FieldType.array .boolean).toString) {x : Int32} {N' : Nat} (hx : ¬ x < 0) (hN : x.toNatClampNeg = N') (hN9 : N' ≤ 9) (hcells : cells + 1 ≤ R.cells) (hslots : slots + 9 ≤ R.slots) (d : decode cc pc = .ok (.anewarray index, 3)) (hn : pc + 3 = n) (k : ∀ (q : Nat), X p l e R s m args below meth c D A H0 nL Q (bs ++ [[(q, .inl (cy 4, N', .inr (.inr (.inr (.inr (fun _ => none))))))]]) (cells + 1) (slots + 9) lv n (.ref q :: st)) : X p l e R s m args below meth c D A H0 nL Q bs cells slots lv pc (.int x :: st) := by
  intro H locs ls hB hS hl
  subst hN
  intro T hT Xs
  obtain ⟨vm₁, cA, kA, comp, hW, f1, f2, f3, f4, X', step⟩ := Jvm.Stand.anewarrayArrK Xs C.1 (ty := .boolean) C.2.2.2.1 (by rw [← hnm]; exact C.2.2.2.2.1 _ hcl) (va_AOA.use C.2.2.2.2.2.1.2.2.2.2.1) (g := F0 m pc ls (.int x :: st)) rfl (by rw [C.2.1]; exact d) rfl hx (by omega) hcells (Nat.le_trans (Nat.add_le_add_left hN9 _) hslots)
  have e3 : cA = cy 4 := Option.some.inj (f1.symm.trans (C.2.2.2.2.2.1.1.2 4 _ rfl).2)
  subst e3
  have hP := hB.1
  have hsz : T.heap.size = H.size := by rw [hT]
  have hH1 : ((T.setVm vm₁).pushCell ({ cls := cy 4, slots := Array.replicate x.toNatClampNeg .null, vm := .none } : Cell)).heap = H.push ({ cls := cy 4, slots := Array.replicate x.toNatClampNeg .null, vm := .none } : Cell) := by rw [← hT]; rfl
  generalize hH : H.push ({ cls := cy 4, slots := Array.replicate x.toNatClampNeg .null, vm := .none } : Cell) = H1 at hH1
  have z1 : H1.size = H.size + 1 := by rw [← hH, Array.size_push]
  have e1 : H1[H.size]? = some (arrV (cy 4) x.toNatClampNeg (fun _ => .null)) := by rw [← hH, Array.getElem?_push_size, ← arrV_new]
  have o1 : ∀ q : Nat, q < H.size → H1[q]? = H[q]? := fun q hq => by rw [← hH, Array.getElem?_push, if_neg (Nat.ne_of_lt hq)]
  have hk : ∀ (k : Nat) (y : Nat × va_E), bs.flatten[k]? = some y → H1[y.1]? = H[y.1]? := fun k y hy => o1 y.1 ((hP k y hy).lt)
  have hS1 : va_S A H0 H1 locs := ⟨Nat.le_trans hS.1 (by omega), fun y h1 h2 => (o1 y (Nat.lt_of_lt_of_le h1 hS.1)).trans (hS.2.1 y h1 h2), hS.2.2⟩
  have hB1 : XB D A (bs ++ [[(H.size, .inl (cy 4, x.toNatClampNeg, .inr (.inr (.inr (.inr (fun _ => none))))))]]) H1 := by
    unfold XB
    rw [List.flatten_append]
    refine ⟨(hP.kept hk).app (fun k y hy => ?_), hB.2.push hP rfl (C.2.2.2.2.2.2.1 _ hS.1)⟩
    have hz : k < 1 := (List.getElem?_eq_some_iff.mp hy).1
    rw [show k = 0 by omega] at hy
    cases hy
    show H1[H.size]? = some (vp_cell _ _)
    rw [vp_cell_q]
    exact e1
  obtain ⟨t, a1, b1⟩ := k H.size H1 locs ls hB1 hS1 hl _ hH1 (stand_widen X' (Nat.le_refl _) (Nat.add_le_add_left hN9 _))
  refine ⟨t, step t ?_, b1⟩
  rw [hsz, hn]
  exact a1
def yadp (ad : Nat → Nat) (m : Nat) : Nat → Option Nat := fun i => if i < m then some (ad i) else none
theorem yad_up (ad : Nat → Nat) (i q : Nat) : va_up (yad ad) i (some q) = yad (va_up ad i q) := by
  funext j
  unfold va_up yad
  by_cases h : j = i <;> simp [h]
theorem yadp_0 (ad : Nat → Nat) : (fun _ => none) = yadp ad 0 := by
  funext j
  simp [yadp]
theorem yadp_up {m i : Nat} (h : i = m) (ad : Nat → Nat) (q : Nat) : va_up (yadp ad m) i (some q) = yadp (va_up ad m q) (m + 1) := by
  subst h
  funext j
  unfold va_up yadp
  by_cases h : j = i
  · simp [h]
  · by_cases h2 : j < i
    · simp [h, h2, Nat.lt_succ_of_lt h2]
    · simp [h, h2, show ¬ j < i + 1 by omega]
theorem xg_replace {ad : Nat → Nat} {n : Nat} {cA : ClassId} {k : Nat} {G : Nat → Nat → Int32} {i q : Nat} {f : Nat → Int32} (h : i < n) : List.Perm (α := Nat × va_E) (xg_rows ad n cA k G ++ [(q, .inl (cA, k, .inl f))]) (xg_rows (va_up ad i q) n cA k (va_up G i f) ++ [(ad i, .inl (cA, k, .inl (G i)))]) := by
  have e : xg_rows (va_up ad i q) n cA k (va_up G i f) = (xg_rows ad n cA k G).set i (q, .inl (cA, k, .inl f)) := by
    apply List.ext_getElem?
    intro m
    rw [List.getElem?_set]
    unfold xg_rows
    by_cases hm : i = m
    · subst hm
      rw [if_pos rfl, if_pos (by simpa using h), List.getElem?_map, List.getElem?_range h]
      simp [va_up]
    · rw [if_neg hm, List.getElem?_map, List.getElem?_map]
      by_cases hl : m < n
      · rw [List.getElem?_range hl]
        have : ¬ m = i := fun z => hm z.symm
        simp [va_up, this]
      · rw [List.getElem?_eq_none (by simpa using Nat.le_of_not_lt hl)]
        rfl
  have hl : i < (xg_rows ad n cA k G).length := by unfold xg_rows; simpa using h
  have hg : (xg_rows ad n cA k G)[i] = (ad i, .inl (cA, k, .inl (G i))) := by
    have := xg_at (ad := ad) (cA := cA) (k := k) (G := G) h
    rw [List.getElem?_eq_getElem hl] at this
    exact Option.some.inj this
  rw [e, List.set_eq_take_append_cons_drop, if_pos hl]
  have e2 : xg_rows ad n cA k G = (xg_rows ad n cA k G).take i ++ (ad i, .inl (cA, k, .inl (G i))) :: (xg_rows ad n cA k G).drop (i + 1) := by
    rw [← hg, ← List.drop_eq_getElem_cons hl, List.take_append_drop]
  generalize xg_rows ad n cA k G = L at e2
  generalize (ad i, (Sum.inl (cA, k, Sum.inl (G i)) : va_E)) = o at e2
  generalize (q, (Sum.inl (cA, k, Sum.inl f) : va_E)) = x
  generalize L.take i = a at e2
  generalize L.drop (i + 1) = d at e2
  rw [e2, List.append_assoc, List.append_assoc]
  refine List.Perm.append_left a ?_
  rw [List.cons_append, List.cons_append]
  have p1 : (o :: (d ++ [x])).Perm (o :: x :: d) := List.Perm.cons o (List.perm_append_singleton x d)
  have p2 : (x :: (d ++ [o])).Perm (x :: o :: d) := List.Perm.cons x (List.perm_append_singleton o d)
  exact p1.trans ((List.Perm.swap x o d).trans p2.symm)
theorem xr_regrow {ad : Nat → Nat} {n0 N : Nat} {cA : ClassId} {G : Nat → Nat → Int32} {f : Nat → Int32} {q : Nat} (i : Nat) (hi : i < n0) (k : X p l e R s m args below meth c D A H0 nL Q (xg_rows (va_up ad i q) n0 cA N (va_up G i f) :: bs) cells slots lv pc st) : X p l e R s m args below meth c D A H0 nL Q (xg_rows ad n0 cA N G :: [(q, .inl (cA, N, .inl f))] :: bs) cells slots lv pc st := by
  refine xr_sub ⟨[(ad i, .inl (cA, N, .inl (G i)))], ?_⟩ k
  rw [List.flatten_cons, List.flatten_cons, List.flatten_cons, ← List.append_assoc]
  refine ((xg_replace hi).append_right bs.flatten).trans ?_
  rw [List.append_assoc, List.append_assoc]
  exact (List.perm_append_comm).append_left _
theorem xr_rowpush {ad : Nat → Nat} {m9 N : Nat} {cA : ClassId} {G : Nat → Nat → Int32} {f : Nat → Int32} {q : Nat} (k : X p l e R s m args below meth c D A H0 nL Q (xg_rows (va_up ad m9 q) (m9 + 1) cA N (va_up G m9 f) :: bs) cells slots lv pc st) : X p l e R s m args below meth c D A H0 nL Q (xg_rows ad m9 cA N G :: [(q, .inl (cA, N, .inl f))] :: bs) cells slots lv pc st := by
  refine xr_flat ?_ k
  rw [List.flatten_cons, List.flatten_cons, List.flatten_cons, ← List.append_assoc, xg_push]
theorem xr_full (C : YC p s m args c cc own D cy nL A H0) {a m9 N K : Nat} {cA cB : ClassId} {ad : Nat → Nat} {G : Nat → Nat → Int32} (hm : m9 = N) (k : X p l e R s m args below meth c D A H0 nL Q ([(a, .inl (cA, N, .inr (.inr (.inr (.inr (yad ad))))))] :: xg_rows ad N cB K G :: bs) cells slots lv pc st) : X p l e R s m args below meth c D A H0 nL Q ([(a, .inl (cA, N, .inr (.inr (.inr (.inr (yadp ad m9))))))] :: xg_rows ad m9 cB K G :: bs) cells slots lv pc st := by
  subst hm
  exact xr_cont C 0 rfl (h := yad ad) (fun i hi => by unfold yadp yad; rw [if_pos hi]) _ rfl k
end XG
section XJ
variable {p : Program} {l : Launch} {e : Env} {R : Room} {s : State} {m : MethodId} {args : Array Value} {below : List Frame} {meth : Method} {c : Code} {cc : ByteArray} {own : String} {D : va_G} {cy : Nat → ClassId} {A : Nat → Prop} {H0 : Heap} {nL : Nat} {Q : State → Prop} {bs : List va_W} {cells slots : Nat} {lv : List (Nat × Value)} {pc n : Nat} {st : List Value}
theorem xr_compact (C : YC p s m args c cc own D cy nL A H0) {index : Nat} (hlink : Cond.fieldLink own index "java/lang/String" "COMPACT_STRINGS" "Z" ∈ yU) (d : decode cc pc = .ok (.getstatic index, 3)) (hn : pc + 3 = n) (k : X p l e R s m args below meth c D A H0 nL Q bs cells slots lv n (.int 1 :: st)) : X p l e R s m args below meth c D A H0 nL Q bs cells slots lv pc st := by
  intro H locs ls hB hS hl
  obtain ⟨cf, kf, fi, f, a, cell, h1, h2, h3, h4, h5, h6, h7, h8⟩ := C.2.2.2.2.2.2.2.2.2
  exact W.gets C.1 C.2.1 C.2.2.2.1 (C.2.2.2.2.1 _ hlink) h1 h2 h3 h4 (by rw [hS.2.1 a (Array.getElem?_eq_some_iff.mp h5).1 h8]; exact h5) (fun e => by rw [e] at h6; cases h6) h7 rfl d (by rw [hn]; exact k H locs ls hB hS hl)
theorem xr_newab (C : YC p s m args c cc own D cy nL A H0) (h1 : Cond.arrayClass .byte ∈ yU) {x : Int32} {N' : Nat} (hx : ¬ x < 0) (hN : x.toNatClampNeg = N') (hb : N' ≤ 16) (hcells : cells + 1 ≤ R.cells) (hslots : slots + 16 ≤ R.slots) (d : decode cc pc = .ok (.newarray .byte, 2)) (hn : pc + 2 = n) (k : ∀ q : Nat, X p l e R s m args below meth c D A H0 nL Q (bs ++ [[(q, .inl (cy 0, N', .inl (fun _ => 0)))]]) (cells + 1) (slots + 16) lv n (.ref q :: st)) : X p l e R s m args below meth c D A H0 nL Q bs cells slots lv pc (.int x :: st) := by
  intro H locs ls hB hS hl
  refine va_newa (D := D) (atype := .byte) (ty := .byte) (a0 := (N', .inl (fun _ => 0))) C.1 C.2.1 (C.2.2.2.2.1 _ h1) rfl C.2.2.2.2.2.1.1 hB.1 hB.2 hS C.2.2.2.2.2.2.1 (fun cA => rfl) hx hN (Nat.le_trans (Nat.mul_le_mul_right _ hb) (by decide)) hcells (by omega) d (fun q cA H1 hK hP hD hS1 => ?_)
  have e : cA = cy 0 := by
    have g1 := (hK.2 5 _ rfl).2
    have g2 := (C.2.2.2.2.2.1.1.2 0 _ rfl).2
    exact Option.some.inj (g1.symm.trans g2)
  subst e
  rw [hn]
  refine W.widen (k := cells + 1) (n := slots + 16) (by omega) (by omega) ?_
  refine k q H1 locs ls ⟨?_, ?_⟩ hS1 hl
  · rw [List.flatten_append]; exact hP
  · rw [List.flatten_append]; exact hD
theorem xr_acopyb (C : YC p s m args c cc own D cy nL A H0) {a a0 n0 n1 : Nat} {f h : Nat → Int32} {sp dp nn : Int32} {index : Nat} (w1 : Cond.methodLink own index arraycopyName ∈ yU) (w2 : Cond.native arraycopyName ∈ yU) (w3 : Cond.static arraycopyName ∈ yU) (w4 : Cond.initialized "java/lang/System" ∈ yU) (b : Nat) {kb : va_W} (hb : bs[b]? = some kb) (hi : kb[0]? = some (a0, .inl (cy 0, n0, .inl f))) (b2 : Nat) {kb2 : va_W} (hb2 : bs[b2]? = some kb2) (hi2 : kb2[0]? = some (a, .inl (cy 0, n1, .inl h))) (h1 : ¬ sp < 0) (h2 : ¬ dp < 0) (h3 : ¬ nn < 0) (h4 : sp.toNatClampNeg + nn.toNatClampNeg ≤ n0) (h5 : dp.toNatClampNeg + nn.toNatClampNeg ≤ n1) (hfit : ∀ i, i < nn.toNatClampNeg → fits .byte (.int (f (sp.toNatClampNeg + i))) = true) (hf : 1 ≤ R.frames) (hlo : (st.map fun v => v.category).sum + (nativeFrameWords "java/lang/System" "arraycopy" 5 + 11) ≤ R.locals) (bs' : List va_W) (hbs : bs.set b2 (kb2.set 0 (a, .inl (cy 0, n1, .inl (va_cpy f h sp.toNatClampNeg dp.toNatClampNeg nn.toNatClampNeg)))) = bs') (d : decode cc pc = .ok (.invokestatic index, 3)) (hn : pc + 3 = n) (k : X p l e R s m args below meth c D A H0 nL Q bs' cells slots lv n st) : X p l e R s m args below meth c D A H0 nL Q bs cells slots lv pc (.int nn :: .int dp :: .ref a :: .int sp :: .ref a0 :: st) := by
  intro H locs ls hB hS hl
  obtain ⟨q0, g1, -⟩ := xw_at bs b 0 _ _ hb hi
  obtain ⟨q1, g2, g3⟩ := xw_at bs b2 0 _ _ hb2 hi2
  refine va_copyi (D := D) C.1 C.2.1 (by rw [C.2.2.1]; exact hl.1.symm) C.2.2.2.1 (C.2.2.2.2.1 _ w1) (C.2.2.2.2.1 _ w2) (C.2.2.2.2.1 _ w3) (C.2.2.2.2.1 _ w4) C.2.2.2.2.2.1.1 hB.1 hB.2 hS q0 q1 0 0 g1 g2 rfl rfl rfl h1 h2 h3 h4 h5 hfit hf hlo d (fun H1 locs1 hP hD hS1 => ?_)
  rw [hn]
  rw [g3, hbs] at hP hD
  exact k H1 locs1 ls ⟨hP, hD⟩ hS1 hl
theorem xr_ldcws (C : YC p s m args c cc own D cy nL A H0) {index : Nat} {tx : String} (hx : (own, index, tx) ∈ xn_str) (d : decode cc pc = .ok (.ldc_w index, 3)) (hn : pc + 3 = n) (k : ∀ q : Nat, X p l e R s m args below meth c D A H0 nL Q bs cells slots lv n (.ref q :: st)) : X p l e R s m args below meth c D A H0 nL Q bs cells slots lv pc st := by
  intro H locs ls hB hS hl
  obtain ⟨q, hq⟩ := C.2.2.2.2.2.1.2.2.1 _ hx
  intro T hT Xs
  obtain ⟨t, a1, b1⟩ := k q H locs ls hB hS hl T hT Xs
  exact ⟨t, Jvm.Stand.ldcStringW Xs C.1 C.2.2.2.1 (text := tx) (a := q) hq.1 hq.2 (g := F0 m pc ls st) rfl (by rw [C.2.1]; exact d) t (by rw [← hn] at a1; exact a1), b1⟩
end XJ
def yNames : List String := ["java/lang/RuntimeException", "java/lang/Exception"]
/-- what a throw of a new exception with a text needs of the tables -/
def yT (own cls text : String) (ik is ic : Nat) : Prop := Bundle.fit cls = true ∧ Cond.classLink own ik cls ∈ yU ∧ Cond.initialized cls ∈ yU ∧ (own, is, text) ∈ xn_str ∧ (∀ w ∈ (vx_atS own ic cls yNames).filter goodWord, w ∈ yU) ∧ (∀ w ∈ (vx_atS own ic cls yNames).filter (fun w => !goodWord w), w ∈ xn_nw) ∧ ∀ w ∈ Cond.classLink own ik cls :: Cond.initialized cls :: vx_atS own ic cls yNames, vx_ot w = true
theorem yw_throw {p : Program} {l : Launch} {e : Env} {s : State} {m : MethodId} {args : Array Value} {below : List Frame} {meth : Method} {c : Code} {cc : ByteArray} {own : String} {D : va_G} {cy : Nat → ClassId} {nL d mc ms : Nat} {bs u : List va_W} {cells slots pc : Nat} {lv : List (Nat × Value)} {rest : List Value} {post : Option Value → List va_W → Prop} {px : String → List va_W → Prop} {cls text : String} {ik is ic : Nat} {H : Heap} {locs : List Loc} {ls : Array Slot} {A : Nat → Prop} (C : YC p s m args c cc own D cy nL A s.heap) (hl0 : l.stackTraces = false) (htab : ∀ x ∈ c.exceptionTable.toList, False) (hlk : meth.locks = false) (ht : yT own cls text ik is ic) (hpx : px cls u) (h5 : 5 < d) (hW : (rest.map fun v => v.category).sum ≤ 8) (hc : cells + 1 ≤ mc) (hs : slots + 6 ≤ ms)
    (d0 : decode cc pc = .ok (.new ik, 3)) (d3 : decode cc (pc + 3) = .ok (.dup, 1)) (d4 : decode cc (pc + 4) = .ok (.ldc is, 2)) (d6 : decode cc (pc + 6) = .ok (.invokespecial ic, 3)) (d9 : decode cc (pc + 9) = .ok (.athrow, 1)) (hB : XB D A u H) (hS : va_S A s.heap H locs) (hl : lv_has ls nL lv) (hA : A = va_A bs.flatten s.heap.size) :
    W p l e (yR d mc ms) s m args below meth c H locs cells slots (vx_MQ below (yQ D bs s.heap.size post) (yXC D bs s.heap.size px) args s mc ms (va_A bs.flatten s.heap.size)) (F0 m pc ls rest) := by
  obtain ⟨t1, t2, t3, t4, t5, t6, t7⟩ := ht
  obtain ⟨sa, hsa⟩ := C.2.2.2.2.2.1.2.2.1 _ t4
  have hat : ∀ w ∈ vx_atS own ic cls yNames, w.before args s = true := vx_hat (B := (vx_atS own ic cls yNames).filter (fun w => !goodWord w)) (fun w hw => C.2.2.2.2.1 w (t5 w hw)) (fun w hw => hw) (fun w hw => va_Nw.use (xn_nw_tab w (t6 w hw)) (C.2.2.2.2.2.1.2.1 w (t6 w hw)))
  subst hA
  refine vx_throwS (text := text) (names := yNames) (sa := sa) C.1 C.2.1 hl0 C.2.2.2.1 t1 (by decide +kernel) (C.2.2.2.2.1 _ t2) (C.2.2.2.2.1 _ t3) hsa hat t7 C.2.2.2.2.2.2.2.1 C.2.2.2.2.2.2.2.2.1 hS (by rw [C.2.2.1]; exact hl.1) d0 d3 d4 d6 d9 (fun x hx => (htab x hx).elim) h5 ?_ ?_ ?_ hlk ?_ hS.2.2 hc hs
  · show _ + (13 * (2 + 1) + 43) ≤ 100 * d
    omega
  · exact hc
  · exact hs
  · intro t _ hz hk
    refine ⟨(cls, u), hpx, ⟨rfl, hB.1.kept (fun k q hq => hk q.1 ((hB.1 k q hq).lt)), hB.2⟩, ⟨Nat.le_trans hS.1 hz, fun q h1 h2 => (hk q (Nat.lt_of_lt_of_le h1 hS.1)).trans (hS.2.1 q h1 h2)⟩⟩
theorem yw_entry {l : Launch} {D : va_G} {cy : Nat → ClassId} {y : MethodName} {hd : Cond} {d mc ms sz maxL : Nat} {Qc : Array Value → State → Outcome → State → Prop} {free : Addr → Prop} {cc : ByteArray} {ret : Option FieldType} {av : List Value} {bs : List va_W} (hy : plainName y.cls = true) (hw : hd = Cond.code y cc maxL ret) (hav : (lg_sl av).length ≤ maxL)
    (body : ∀ (p : Program) (e : Env) (s : State) (m : MethodId) (below : List Frame) (meth : Method) (c : Code), s.heap.size = sz → YC p s m av.toArray c cc y.cls D cy maxL (va_A bs.flatten s.heap.size) s.heap → meth.sig.returnType = ret → meth.locks = false → meth.name = y.name →
      X p l e (yR d mc ms) s m av.toArray below meth c D (va_A bs.flatten s.heap.size) s.heap maxL (MQ below Qc av.toArray s mc ms free) bs 0 0 (lv_args 0 av) 0 []) : Met l y (hd :: yU) (yR d mc ms) (yPre D cy av bs sz) Qc mc ms free := by
  refine Met.ofW (cc := cc) (maxL := maxL) (ret := ret) hy (by rw [hw]) ?_
  intro p e s m args below meth c s₁ B hml hv
  obtain ⟨rfl, hsz, hP, hK, hD0, hZ⟩ := hv
  have hown : s.vm.findClass y.cls = some m.cls := findClass_of_methodNamed B.named
  rw [lg_entry_eq]
  subst hsz
  exact body p e s m below meth c rfl ⟨B.exec, B.bytes, hml, hown, yhd B.pre, hK, fun q h => Or.inr h, hZ⟩ B.returns B.notSynchronized (name_of_methodNamed B.named B.method).1 s.heap [] _ ⟨hP, hD0.self⟩ va_S.rf (lv_entry av hav)
theorem yw_entryX {l : Launch} {D : va_G} {cy : Nat → ClassId} {y : MethodName} {hd : Cond} {d mc ms sz maxL : Nat} {Qc : Array Value → State → Outcome → State → Prop} {XCC : String → State → State → Prop} {free : Addr → Prop} {cc : ByteArray} {ret : Option FieldType} {av : List Value} {bs : List va_W} (hy : plainName y.cls = true) (hw : hd = Cond.code y cc maxL ret) (hav : (lg_sl av).length ≤ maxL)
    (body : ∀ (p : Program) (e : Env) (s : State) (m : MethodId) (below : List Frame) (meth : Method) (c : Code), s.heap.size = sz → (∀ x ∈ c.exceptionTable.toList, False) → YC p s m av.toArray c cc y.cls D cy maxL (va_A bs.flatten s.heap.size) s.heap → meth.sig.returnType = ret → meth.locks = false → meth.name = y.name →
      X p l e (yR d mc ms) s m av.toArray below meth c D (va_A bs.flatten s.heap.size) s.heap maxL (vx_MQ below Qc XCC av.toArray s mc ms free) bs 0 0 (lv_args 0 av) 0 []) : vx_Met l y (hd :: yU) (yR d mc ms) (yPre D cy av bs sz) Qc XCC mc ms free := by
  refine vx_ofW (cc := cc) (maxL := maxL) (ret := ret) hy (by rw [hw]) ?_
  intro p e s m args below meth c s₁ B hml htab hv
  obtain ⟨rfl, hsz, hP, hK, hD0, hZ⟩ := hv
  have hown : s.vm.findClass y.cls = some m.cls := findClass_of_methodNamed B.named
  rw [lg_entry_eq]
  subst hsz
  exact body p e s m below meth c rfl htab ⟨B.exec, B.bytes, hml, hown, yhd B.pre, hK, fun q h => Or.inr h, hZ⟩ B.returns B.notSynchronized (name_of_methodNamed B.named B.method).1 s.heap [] _ ⟨hP, hD0.self⟩ va_S.rf (lv_entry av hav)
theorem YM.ofI {l : Launch} {D : va_G} {cy : Nat → ClassId} {y : MethodName} {hd : Cond} {d mc ms maxL : Nat} {cc : ByteArray} {ret : Option FieldType} {av : List Value} {bs : List va_W} {post : Option Value → List va_W → Prop} (hy : plainName y.cls = true) (hw : hd = Cond.code y cc maxL ret) (hav : (lg_sl av).length ≤ maxL) (lv0 : List (Nat × Value)) (hlv : lv_args 0 av = lv0) (hret : ret = some .int)
    (body : ∀ (p : Program) (e : Env) (s : State) (m : MethodId) (args : Array Value) (below : List Frame) (meth : Method) (c : Code) (A : Nat → Prop) (H0 : Heap) (Q : State → Prop), YC p s m args c cc y.cls D cy maxL A H0 → meth.name = y.name →
      (∀ {u : List va_W} {cells slots : Nat} {lv : List (Nat × Value)} {pc : Nat} (v : Int32), post (some (.int v)) u → cells ≤ mc → slots ≤ ms → decode cc pc = .ok (.ireturn, 1) → X p l e (yR d mc ms) s m args below meth c D A H0 maxL Q u cells slots lv pc [.int v]) →
      X p l e (yR d mc ms) s m args below meth c D A H0 maxL Q bs 0 0 lv0 0 []) : YM l D cy y hd d mc ms av bs post := by
  intro sz
  refine yw_entry hy hw hav (fun p e s m below meth c hz C hr hlk hnm => ?_)
  rw [hlv]
  refine body p e s m _ below meth c _ _ _ C hnm (fun {u cells slots lv pc} v hp hc hs d => ?_)
  intro H locs ls hB hS hl
  refine W.widen hc hs ?_
  subst hz
  exact W.iret (v := v) C.1 C.2.1 (by rw [hr]; exact hret) (fun t ht hW => ⟨⟨(some (.int v)), u, rfl, hp, by rw [ht]; exact hB.1, hB.2⟩, hS.F ht⟩) hS.2.2 d hlk
theorem YX.ofI {l : Launch} {D : va_G} {cy : Nat → ClassId} {y : MethodName} {hd : Cond} {d mc ms maxL : Nat} {cc : ByteArray} {ret : Option FieldType} {av : List Value} {bs : List va_W} {post : Option Value → List va_W → Prop} {px : String → List va_W → Prop} (hl0 : l.stackTraces = false) (hy : plainName y.cls = true) (hw : hd = Cond.code y cc maxL ret) (hav : (lg_sl av).length ≤ maxL) (lv0 : List (Nat × Value)) (hlv : lv_args 0 av = lv0) (hret : ret = some .int)
    (body : ∀ (p : Program) (e : Env) (s : State) (m : MethodId) (args : Array Value) (below : List Frame) (meth : Method) (c : Code) (A : Nat → Prop) (H0 : Heap) (Q : State → Prop), YC p s m args c cc y.cls D cy maxL A H0 →
      (∀ {u : List va_W} {cells slots : Nat} {lv : List (Nat × Value)} {pc : Nat} (v : Int32), post (some (.int v)) u → cells ≤ mc → slots ≤ ms → decode cc pc = .ok (.ireturn, 1) → X p l e (yR d mc ms) s m args below meth c D A H0 maxL Q u cells slots lv pc [.int v]) →
      (∀ {u : List va_W} {cells slots : Nat} {lv : List (Nat × Value)} {pc : Nat} {rest : List Value} (cls text : String) (ik is ic : Nat), yT y.cls cls text ik is ic → px cls u → 5 < d → (rest.map fun v => v.category).sum ≤ 8 → cells + 1 ≤ mc → slots + 6 ≤ ms → decode cc pc = .ok (.new ik, 3) → decode cc (pc + 3) = .ok (.dup, 1) → decode cc (pc + 4) = .ok (.ldc is, 2) → decode cc (pc + 6) = .ok (.invokespecial ic, 3) → decode cc (pc + 9) = .ok (.athrow, 1) → X p l e (yR d mc ms) s m args below meth c D A H0 maxL Q u cells slots lv pc rest) →
      X p l e (yR d mc ms) s m args below meth c D A H0 maxL Q bs 0 0 lv0 0 []) : YX l D cy y hd d mc ms av bs post px := by
  intro sz
  refine yw_entryX hy hw hav (fun p e s m below meth c hz htab C hr hlk hnm => ?_)
  rw [hlv]
  subst hz
  refine body p e s m _ below meth c _ _ _ C (fun {u cells slots lv pc} v hp hc hs d => ?_) (fun {u cells slots lv pc rest} cls text ik is ic ht hpx h5 hW hc hs d0 d3 d4 d6 d9 => ?_)
  · intro H locs ls hB hS hl
    refine W.widen hc hs (vx_ret ?_)
    exact W.iret (v := v) C.1 C.2.1 (by rw [hr]; exact hret) (fun t ht hW => ⟨⟨(some (.int v)), u, rfl, hp, by rw [ht]; exact hB.1, hB.2⟩, hS.F ht⟩) hS.2.2 d hlk
  · intro H locs ls hB hS hl
    exact yw_throw C hl0 htab hlk ht hpx h5 hW hc hs d0 d3 d4 d6 d9 hB hS hl rfl
theorem YM.ofZ {l : Launch} {D : va_G} {cy : Nat → ClassId} {y : MethodName} {hd : Cond} {d mc ms maxL : Nat} {cc : ByteArray} {ret : Option FieldType} {av : List Value} {bs : List va_W} {post : Option Value → List va_W → Prop} (hy : plainName y.cls = true) (hw : hd = Cond.code y cc maxL ret) (hav : (lg_sl av).length ≤ maxL) (lv0 : List (Nat × Value)) (hlv : lv_args 0 av = lv0) (rt : FieldType) (hrt : ret = some rt)
    (body : ∀ (p : Program) (e : Env) (s : State) (m : MethodId) (args : Array Value) (below : List Frame) (meth : Method) (c : Code) (A : Nat → Prop) (H0 : Heap) (Q : State → Prop), YC p s m args c cc y.cls D cy maxL A H0 → meth.name = y.name →
      (∀ {u : List va_W} {cells slots : Nat} {lv : List (Nat × Value)} {pc : Nat} (v : Int32), narrow rt (.int v) = .int v → post (some (.int v)) u → cells ≤ mc → slots ≤ ms → decode cc pc = .ok (.ireturn, 1) → X p l e (yR d mc ms) s m args below meth c D A H0 maxL Q u cells slots lv pc [.int v]) →
      X p l e (yR d mc ms) s m args below meth c D A H0 maxL Q bs 0 0 lv0 0 []) : YM l D cy y hd d mc ms av bs post := by
  intro sz
  refine yw_entry hy hw hav (fun p e s m below meth c hz C hr hlk hnm => ?_)
  rw [hlv]
  refine body p e s m _ below meth c _ _ _ C hnm (fun {u cells slots lv pc} v hnr hp hc hs d => ?_)
  intro H locs ls hB hS hl
  refine W.widen hc hs ?_
  subst hz
  exact W.zret (v := v) (ty := rt) C.1 C.2.1 (by rw [hr]; exact hrt) hnr (fun t ht hW => ⟨⟨(some (.int v)), u, rfl, hp, by rw [ht]; exact hB.1, hB.2⟩, hS.F ht⟩) hS.2.2 d hlk
theorem YX.ofZ {l : Launch} {D : va_G} {cy : Nat → ClassId} {y : MethodName} {hd : Cond} {d mc ms maxL : Nat} {cc : ByteArray} {ret : Option FieldType} {av : List Value} {bs : List va_W} {post : Option Value → List va_W → Prop} {px : String → List va_W → Prop} (hl0 : l.stackTraces = false) (hy : plainName y.cls = true) (hw : hd = Cond.code y cc maxL ret) (hav : (lg_sl av).length ≤ maxL) (lv0 : List (Nat × Value)) (hlv : lv_args 0 av = lv0) (rt : FieldType) (hrt : ret = some rt)
    (body : ∀ (p : Program) (e : Env) (s : State) (m : MethodId) (args : Array Value) (below : List Frame) (meth : Method) (c : Code) (A : Nat → Prop) (H0 : Heap) (Q : State → Prop), YC p s m args c cc y.cls D cy maxL A H0 →
      (∀ {u : List va_W} {cells slots : Nat} {lv : List (Nat × Value)} {pc : Nat} (v : Int32), narrow rt (.int v) = .int v → post (some (.int v)) u → cells ≤ mc → slots ≤ ms → decode cc pc = .ok (.ireturn, 1) → X p l e (yR d mc ms) s m args below meth c D A H0 maxL Q u cells slots lv pc [.int v]) →
      (∀ {u : List va_W} {cells slots : Nat} {lv : List (Nat × Value)} {pc : Nat} {rest : List Value} (cls text : String) (ik is ic : Nat), yT y.cls cls text ik is ic → px cls u → 5 < d → (rest.map fun v => v.category).sum ≤ 8 → cells + 1 ≤ mc → slots + 6 ≤ ms → decode cc pc = .ok (.new ik, 3) → decode cc (pc + 3) = .ok (.dup, 1) → decode cc (pc + 4) = .ok (.ldc is, 2) → decode cc (pc + 6) = .ok (.invokespecial ic, 3) → decode cc (pc + 9) = .ok (.athrow, 1) → X p l e (yR d mc ms) s m args below meth c D A H0 maxL Q u cells slots lv pc rest) →
      X p l e (yR d mc ms) s m args below meth c D A H0 maxL Q bs 0 0 lv0 0 []) : YX l D cy y hd d mc ms av bs post px := by
  intro sz
  refine yw_entryX hy hw hav (fun p e s m below meth c hz htab C hr hlk hnm => ?_)
  rw [hlv]
  subst hz
  refine body p e s m _ below meth c _ _ _ C (fun {u cells slots lv pc} v hnr hp hc hs d => ?_) (fun {u cells slots lv pc rest} cls text ik is ic ht hpx h5 hW hc hs d0 d3 d4 d6 d9 => ?_)
  · intro H locs ls hB hS hl
    refine W.widen hc hs (vx_ret ?_)
    exact W.zret (v := v) (ty := rt) C.1 C.2.1 (by rw [hr]; exact hrt) hnr (fun t ht hW => ⟨⟨(some (.int v)), u, rfl, hp, by rw [ht]; exact hB.1, hB.2⟩, hS.F ht⟩) hS.2.2 d hlk
  · intro H locs ls hB hS hl
    exact yw_throw C hl0 htab hlk ht hpx h5 hW hc hs d0 d3 d4 d6 d9 hB hS hl rfl
theorem YM.ofL {l : Launch} {D : va_G} {cy : Nat → ClassId} {y : MethodName} {hd : Cond} {d mc ms maxL : Nat} {cc : ByteArray} {ret : Option FieldType} {av : List Value} {bs : List va_W} {post : Option Value → List va_W → Prop} (hy : plainName y.cls = true) (hw : hd = Cond.code y cc maxL ret) (hav : (lg_sl av).length ≤ maxL) (lv0 : List (Nat × Value)) (hlv : lv_args 0 av = lv0) (hret : ret = some .long)
    (body : ∀ (p : Program) (e : Env) (s : State) (m : MethodId) (args : Array Value) (below : List Frame) (meth : Method) (c : Code) (A : Nat → Prop) (H0 : Heap) (Q : State → Prop), YC p s m args c cc y.cls D cy maxL A H0 → meth.name = y.name →
      (∀ {u : List va_W} {cells slots : Nat} {lv : List (Nat × Value)} {pc : Nat} (v : Int64), post (some (.long v)) u → cells ≤ mc → slots ≤ ms → decode cc pc = .ok (.lreturn, 1) → X p l e (yR d mc ms) s m args below meth c D A H0 maxL Q u cells slots lv pc [.long v]) →
      X p l e (yR d mc ms) s m args below meth c D A H0 maxL Q bs 0 0 lv0 0 []) : YM l D cy y hd d mc ms av bs post := by
  intro sz
  refine yw_entry hy hw hav (fun p e s m below meth c hz C hr hlk hnm => ?_)
  rw [hlv]
  refine body p e s m _ below meth c _ _ _ C hnm (fun {u cells slots lv pc} v hp hc hs d => ?_)
  intro H locs ls hB hS hl
  refine W.widen hc hs ?_
  subst hz
  exact W.lret (v := v) C.1 C.2.1 (by rw [hr]; exact hret) (fun t ht hW => ⟨⟨(some (.long v)), u, rfl, hp, by rw [ht]; exact hB.1, hB.2⟩, hS.F ht⟩) hS.2.2 d hlk
theorem YX.ofL {l : Launch} {D : va_G} {cy : Nat → ClassId} {y : MethodName} {hd : Cond} {d mc ms maxL : Nat} {cc : ByteArray} {ret : Option FieldType} {av : List Value} {bs : List va_W} {post : Option Value → List va_W → Prop} {px : String → List va_W → Prop} (hl0 : l.stackTraces = false) (hy : plainName y.cls = true) (hw : hd = Cond.code y cc maxL ret) (hav : (lg_sl av).length ≤ maxL) (lv0 : List (Nat × Value)) (hlv : lv_args 0 av = lv0) (hret : ret = some .long)
    (body : ∀ (p : Program) (e : Env) (s : State) (m : MethodId) (args : Array Value) (below : List Frame) (meth : Method) (c : Code) (A : Nat → Prop) (H0 : Heap) (Q : State → Prop), YC p s m args c cc y.cls D cy maxL A H0 →
      (∀ {u : List va_W} {cells slots : Nat} {lv : List (Nat × Value)} {pc : Nat} (v : Int64), post (some (.long v)) u → cells ≤ mc → slots ≤ ms → decode cc pc = .ok (.lreturn, 1) → X p l e (yR d mc ms) s m args below meth c D A H0 maxL Q u cells slots lv pc [.long v]) →
      (∀ {u : List va_W} {cells slots : Nat} {lv : List (Nat × Value)} {pc : Nat} {rest : List Value} (cls text : String) (ik is ic : Nat), yT y.cls cls text ik is ic → px cls u → 5 < d → (rest.map fun v => v.category).sum ≤ 8 → cells + 1 ≤ mc → slots + 6 ≤ ms → decode cc pc = .ok (.new ik, 3) → decode cc (pc + 3) = .ok (.dup, 1) → decode cc (pc + 4) = .ok (.ldc is, 2) → decode cc (pc + 6) = .ok (.invokespecial ic, 3) → decode cc (pc + 9) = .ok (.athrow, 1) → X p l e (yR d mc ms) s m args below meth c D A H0 maxL Q u cells slots lv pc rest) →
      X p l e (yR d mc ms) s m args below meth c D A H0 maxL Q bs 0 0 lv0 0 []) : YX l D cy y hd d mc ms av bs post px := by
  intro sz
  refine yw_entryX hy hw hav (fun p e s m below meth c hz htab C hr hlk hnm => ?_)
  rw [hlv]
  subst hz
  refine body p e s m _ below meth c _ _ _ C (fun {u cells slots lv pc} v hp hc hs d => ?_) (fun {u cells slots lv pc rest} cls text ik is ic ht hpx h5 hW hc hs d0 d3 d4 d6 d9 => ?_)
  · intro H locs ls hB hS hl
    refine W.widen hc hs (vx_ret ?_)
    exact W.lret (v := v) C.1 C.2.1 (by rw [hr]; exact hret) (fun t ht hW => ⟨⟨(some (.long v)), u, rfl, hp, by rw [ht]; exact hB.1, hB.2⟩, hS.F ht⟩) hS.2.2 d hlk
  · intro H locs ls hB hS hl
    exact yw_throw C hl0 htab hlk ht hpx h5 hW hc hs d0 d3 d4 d6 d9 hB hS hl rfl
theorem YM.ofA {l : Launch} {D : va_G} {cy : Nat → ClassId} {y : MethodName} {hd : Cond} {d mc ms maxL : Nat} {cc : ByteArray} {ret : Option FieldType} {av : List Value} {bs : List va_W} {post : Option Value → List va_W → Prop} (hy : plainName y.cls = true) (hw : hd = Cond.code y cc maxL ret) (hav : (lg_sl av).length ≤ maxL) (lv0 : List (Nat × Value)) (hlv : lv_args 0 av = lv0) (rt : FieldType) (hrt : ret = some rt) (hrf : (∃ n, rt = .object n) ∨ ∃ t, rt = .array t)
    (body : ∀ (p : Program) (e : Env) (s : State) (m : MethodId) (args : Array Value) (below : List Frame) (meth : Method) (c : Code) (A : Nat → Prop) (H0 : Heap) (Q : State → Prop), YC p s m args c cc y.cls D cy maxL A H0 → meth.name = y.name →
      (∀ {u : List va_W} {cells slots : Nat} {lv : List (Nat × Value)} {pc : Nat} (v : Nat), post (some (.ref v)) u → cells ≤ mc → slots ≤ ms → decode cc pc = .ok (.areturn, 1) → X p l e (yR d mc ms) s m args below meth c D A H0 maxL Q u cells slots lv pc [.ref v]) →
      X p l e (yR d mc ms) s m args below meth c D A H0 maxL Q bs 0 0 lv0 0 []) : YM l D cy y hd d mc ms av bs post := by
  intro sz
  refine yw_entry hy hw hav (fun p e s m below meth c hz C hr hlk hnm => ?_)
  rw [hlv]
  refine body p e s m _ below meth c _ _ _ C hnm (fun {u cells slots lv pc} v hp hc hs d => ?_)
  intro H locs ls hB hS hl
  refine W.widen hc hs ?_
  subst hz
  exact W.aret (v := .ref v) C.1 C.2.1 (by rw [hr]; exact hrt) hrf (Or.inr ⟨v, rfl⟩) (fun t ht hW => ⟨⟨(some (.ref v)), u, rfl, hp, by rw [ht]; exact hB.1, hB.2⟩, hS.F ht⟩) hS.2.2 d hlk
theorem YX.ofA {l : Launch} {D : va_G} {cy : Nat → ClassId} {y : MethodName} {hd : Cond} {d mc ms maxL : Nat} {cc : ByteArray} {ret : Option FieldType} {av : List Value} {bs : List va_W} {post : Option Value → List va_W → Prop} {px : String → List va_W → Prop} (hl0 : l.stackTraces = false) (hy : plainName y.cls = true) (hw : hd = Cond.code y cc maxL ret) (hav : (lg_sl av).length ≤ maxL) (lv0 : List (Nat × Value)) (hlv : lv_args 0 av = lv0) (rt : FieldType) (hrt : ret = some rt) (hrf : (∃ n, rt = .object n) ∨ ∃ t, rt = .array t)
    (body : ∀ (p : Program) (e : Env) (s : State) (m : MethodId) (args : Array Value) (below : List Frame) (meth : Method) (c : Code) (A : Nat → Prop) (H0 : Heap) (Q : State → Prop), YC p s m args c cc y.cls D cy maxL A H0 →
      (∀ {u : List va_W} {cells slots : Nat} {lv : List (Nat × Value)} {pc : Nat} (v : Nat), post (some (.ref v)) u → cells ≤ mc → slots ≤ ms → decode cc pc = .ok (.areturn, 1) → X p l e (yR d mc ms) s m args below meth c D A H0 maxL Q u cells slots lv pc [.ref v]) →
      (∀ {u : List va_W} {cells slots : Nat} {lv : List (Nat × Value)} {pc : Nat} {rest : List Value} (cls text : String) (ik is ic : Nat), yT y.cls cls text ik is ic → px cls u → 5 < d → (rest.map fun v => v.category).sum ≤ 8 → cells + 1 ≤ mc → slots + 6 ≤ ms → decode cc pc = .ok (.new ik, 3) → decode cc (pc + 3) = .ok (.dup, 1) → decode cc (pc + 4) = .ok (.ldc is, 2) → decode cc (pc + 6) = .ok (.invokespecial ic, 3) → decode cc (pc + 9) = .ok (.athrow, 1) → X p l e (yR d mc ms) s m args below meth c D A H0 maxL Q u cells slots lv pc rest) →
      X p l e (yR d mc ms) s m args below meth c D A H0 maxL Q bs 0 0 lv0 0 []) : YX l D cy y hd d mc ms av bs post px := by
  intro sz
  refine yw_entryX hy hw hav (fun p e s m below meth c hz htab C hr hlk hnm => ?_)
  rw [hlv]
  subst hz
  refine body p e s m _ below meth c _ _ _ C (fun {u cells slots lv pc} v hp hc hs d => ?_) (fun {u cells slots lv pc rest} cls text ik is ic ht hpx h5 hW hc hs d0 d3 d4 d6 d9 => ?_)
  · intro H locs ls hB hS hl
    refine W.widen hc hs (vx_ret ?_)
    exact W.aret (v := .ref v) C.1 C.2.1 (by rw [hr]; exact hrt) hrf (Or.inr ⟨v, rfl⟩) (fun t ht hW => ⟨⟨(some (.ref v)), u, rfl, hp, by rw [ht]; exact hB.1, hB.2⟩, hS.F ht⟩) hS.2.2 d hlk
  · intro H locs ls hB hS hl
    exact yw_throw C hl0 htab hlk ht hpx h5 hW hc hs d0 d3 d4 d6 d9 hB hS hl rfl
theorem YM.ofV {l : Launch} {D : va_G} {cy : Nat → ClassId} {y : MethodName} {hd : Cond} {d mc ms maxL : Nat} {cc : ByteArray} {ret : Option FieldType} {av : List Value} {bs : List va_W} {post : Option Value → List va_W → Prop} (hy : plainName y.cls = true) (hw : hd = Cond.code y cc maxL ret) (hav : (lg_sl av).length ≤ maxL) (lv0 : List (Nat × Value)) (hlv : lv_args 0 av = lv0) (hret : ret = none)
    (body : ∀ (p : Program) (e : Env) (s : State) (m : MethodId) (args : Array Value) (below : List Frame) (meth : Method) (c : Code) (A : Nat → Prop) (H0 : Heap) (Q : State → Prop), YC p s m args c cc y.cls D cy maxL A H0 → meth.name = y.name →
      (∀ {u : List va_W} {cells slots : Nat} {lv : List (Nat × Value)} {pc : Nat} , post none u → cells ≤ mc → slots ≤ ms → decode cc pc = .ok (.return_, 1) → X p l e (yR d mc ms) s m args below meth c D A H0 maxL Q u cells slots lv pc []) →
      X p l e (yR d mc ms) s m args below meth c D A H0 maxL Q bs 0 0 lv0 0 []) : YM l D cy y hd d mc ms av bs post := by
  intro sz
  refine yw_entry hy hw hav (fun p e s m below meth c hz C hr hlk hnm => ?_)
  rw [hlv]
  refine body p e s m _ below meth c _ _ _ C hnm (fun {u cells slots lv pc} hp hc hs d => ?_)
  intro H locs ls hB hS hl
  refine W.widen hc hs ?_
  subst hz
  exact W.vret C.1 C.2.1 (by rw [hr]; exact hret) (fun t ht hW => ⟨⟨none, u, rfl, hp, by rw [ht]; exact hB.1, hB.2⟩, hS.F ht⟩) hS.2.2 d hlk
theorem YX.ofV {l : Launch} {D : va_G} {cy : Nat → ClassId} {y : MethodName} {hd : Cond} {d mc ms maxL : Nat} {cc : ByteArray} {ret : Option FieldType} {av : List Value} {bs : List va_W} {post : Option Value → List va_W → Prop} {px : String → List va_W → Prop} (hl0 : l.stackTraces = false) (hy : plainName y.cls = true) (hw : hd = Cond.code y cc maxL ret) (hav : (lg_sl av).length ≤ maxL) (lv0 : List (Nat × Value)) (hlv : lv_args 0 av = lv0) (hret : ret = none)
    (body : ∀ (p : Program) (e : Env) (s : State) (m : MethodId) (args : Array Value) (below : List Frame) (meth : Method) (c : Code) (A : Nat → Prop) (H0 : Heap) (Q : State → Prop), YC p s m args c cc y.cls D cy maxL A H0 →
      (∀ {u : List va_W} {cells slots : Nat} {lv : List (Nat × Value)} {pc : Nat} , post none u → cells ≤ mc → slots ≤ ms → decode cc pc = .ok (.return_, 1) → X p l e (yR d mc ms) s m args below meth c D A H0 maxL Q u cells slots lv pc []) →
      (∀ {u : List va_W} {cells slots : Nat} {lv : List (Nat × Value)} {pc : Nat} {rest : List Value} (cls text : String) (ik is ic : Nat), yT y.cls cls text ik is ic → px cls u → 5 < d → (rest.map fun v => v.category).sum ≤ 8 → cells + 1 ≤ mc → slots + 6 ≤ ms → decode cc pc = .ok (.new ik, 3) → decode cc (pc + 3) = .ok (.dup, 1) → decode cc (pc + 4) = .ok (.ldc is, 2) → decode cc (pc + 6) = .ok (.invokespecial ic, 3) → decode cc (pc + 9) = .ok (.athrow, 1) → X p l e (yR d mc ms) s m args below meth c D A H0 maxL Q u cells slots lv pc rest) →
      X p l e (yR d mc ms) s m args below meth c D A H0 maxL Q bs 0 0 lv0 0 []) : YX l D cy y hd d mc ms av bs post px := by
  intro sz
  refine yw_entryX hy hw hav (fun p e s m below meth c hz htab C hr hlk hnm => ?_)
  rw [hlv]
  subst hz
  refine body p e s m _ below meth c _ _ _ C (fun {u cells slots lv pc} hp hc hs d => ?_) (fun {u cells slots lv pc rest} cls text ik is ic ht hpx h5 hW hc hs d0 d3 d4 d6 d9 => ?_)
  · intro H locs ls hB hS hl
    refine W.widen hc hs (vx_ret ?_)
    exact W.vret C.1 C.2.1 (by rw [hr]; exact hret) (fun t ht hW => ⟨⟨none, u, rfl, hp, by rw [ht]; exact hB.1, hB.2⟩, hS.F ht⟩) hS.2.2 d hlk
  · intro H locs ls hB hS hl
    exact yw_throw C hl0 htab hlk ht hpx h5 hW hc hs d0 d3 d4 d6 d9 hB hS hl rfl
