/-! THE CLAIM OUT OF ONE WALK OF THE LAW'S BODY. Your part is whole_start (and what it stands on); all else here is the same for every law, but numbers. -/
def R_law : String := "PulsemeshLaw"
def lw_P (b : Addr) (xs : List Int32) (args : Array Value) (s : State) : Prop := args = #[.ref b] ∧ s.IntsAt b xs ∧ xs.length ≤ 4 ∧ (Jvm.Cond.and given_1 narrow_1).before args s = true
def lw_Q (_ : Array Value) (s : State) (o : Outcome) (t : State) : Prop := o = .returned (some (.int 1)) ∧ Framed s o t [] 600002 7302232
def lw_Z (below : List Frame) (a : Array Value) (s : State) : State → Prop := fun t => ∃ o, t.status = .running ∧ Ended t below o ∧ lw_Q a s o t
/-- the law's own end, with 1 on the stack, nothing written that was there before, its room as the claim has it -/
theorem lw_ret {p : Program} {l : Launch} {e : Env} {s : State} {m : MethodId} {below : List Frame} {meth : Method} {c : Code} {b : Nat} (hx : p.tables.exec = Jvm.exec) (hb : c.code = code) (hr : meth.sig.returnType = ret) (hlocks : meth.locks = false) {pc : Nat} {H : Heap} {ls : Array Slot} (hdg : decode code pc = .ok (.ireturn, 1)) : W p l e room_1 s m #[Value.ref b] below meth c H [] 600002 7302232 (lw_Z below #[Value.ref b] s) (F0 m pc ls [.int 1]) := by
  intro T hT X
  obtain ⟨fs, hret, hrun, hended, hW, hframe⟩ := X.leave (v := some (.int 1)) (hlocks := hlocks) (fun h => by rw [hr] at h; cases h)
  have hmeth' : T.vm.method? m = some meth := X.method'
  refine ⟨T.setFrames fs, ?_, .returned (some (.int 1)), hrun, hended, rfl, ⟨_, rfl⟩, hW, hframe⟩
  jvm_step X.here [X.here.top, hx, hb, hdg, hmeth', hr, ret, narrow_b1]
  (try refine ⟨rfl, ?_⟩); (try refine ⟨rfl, ?_⟩)
  first | (intro acts; rw [hret _ acts rfl rfl rfl]) | rw [hret _ _ rfl rfl rfl]
  exact Steps.refl _
/-- what holds at the law's entry: the machine, the code, the tables' words (any of lw_tbl by 'hts w (by decide +kernel)'), the script of L ints xs at the cell b, what the Statement gives of the start (any of its parts by flat_of_before) -/
def lw_At (p : Program) (s : State) (m : MethodId) (meth : Method) (c : Code) (b L : Nat) (xs : Nat → Int32) : Prop :=
  p.tables.exec = Jvm.exec ∧ c.code = code ∧ meth.sig.returnType = ret ∧ c.maxLocals = 7 ∧ s.vm.findClass R_law = some m.cls ∧ (∀ w ∈ lw_tbl, w.before #[Value.ref b] s = true) ∧ va_X b L xs s s.heap ∧ b < s.heap.size ∧ meth.locks = false ∧ (Jvm.Cond.and given_1 narrow_1).before #[Value.ref b] s = true

theorem y_str {own tx : String} {k : Nat} {A : Array Value} {s : State} (h : (Cond.stringRef own k tx).before A s = true) : ∃ a, vk_R own k tx a s := by
  cases hc : s.vm.findClass own with
  | none => simp [Cond.before, Cond.holds, Cond.value, hc] at h
  | some cur =>
    obtain ⟨k9, cf, i, a, -, -, -, -, -, hev⟩ := Cond.stringRef_spec hc h
    exact ⟨a, vk_R.of h hev⟩
theorem y_arrO {s : State} {ty : FieldType} {c : ClassId} {k : Class} {comp : ClassId} (h2 : s.vm.classes[c]? = some k) (h3 : k.kind = .array comp ty) : ArrOfT s c ty := fun n z => ⟨fun k h => (by cases h), _, h2, _, h3⟩
theorem xn_nw_at : xn_nw = [94, 100, 110, 112, 114, 116, 118, 120, 122, 123, 141, 146, 148, 150, 151, 153, 155, 167, 172, 174, 175, 177, 179, 181, 193, 198, 201, 206, 208, 210, 211, 213, 214, 216, 217, 219, 221, 225, 226, 252, 257, 259, 261, 263, 288, 552, 556, 557, 573, 574, 575, 576, 577, 578, 579, 661, 709, 975, 1196, 1349, 1371, 1409].filterMap (fun i => lw_tbl[i]?) := by decide +kernel
theorem xn_str_at : xn_str.map (fun q => Cond.stringRef q.1 q.2.1 q.2.2) = [612, 668, 678, 690, 698, 716, 733, 745, 758, 794, 795, 840, 841, 849, 875, 883, 898, 906, 1107, 1179, 1187, 1551].filterMap (fun i => lw_tbl[i]?) := by decide +kernel
theorem y_memF {L : List Cond} {is : List Nat} {w : Cond} (h : w ∈ is.filterMap (fun i => L[i]?)) : w ∈ L := by
  obtain ⟨i, -, h2⟩ := List.mem_filterMap.mp h
  exact List.mem_of_getElem? h2
set_option maxHeartbeats 4000000 in
set_option maxRecDepth 100000 in
theorem y_start {s : State} {b : Nat} (hts : ∀ w ∈ lw_tbl, w.before #[Value.ref b] s = true) (hgv : (Jvm.Cond.and given_1 narrow_1).before #[Value.ref b] s = true) : ∃ (D : va_G) (cy : Nat → ClassId), YK D cy s ∧ YZ (fun q : Nat => s.heap.size ≤ q) s s.heap := by
  have hs := flat_of_before _ hgv
  have hU : ∀ w ∈ yU, w.before #[Value.ref b] s = true := fun w h => hts w (List.mem_filter.mp h).1
  obtain ⟨c0, i0, k0⟩ := u_known (C := RJ0) (T := TJ0) (N := 4) (n := 4) hU in_J0 (hU _ u_1039)
  obtain ⟨c1, i1, k1⟩ := u_known (C := RJ4) (T := TJ4) (N := 4) (n := 4) hU in_J4 (hU _ u_908)
  obtain ⟨c2, i2, k2⟩ := u_known (C := RX0) (T := TX0) (N := 4) (n := 4) hU in_X0 (hU _ u_140)
  obtain ⟨c3, i3, k3⟩ := u_known (C := RX1) (T := TX1) (N := 7) (n := 7) hU in_X1 (hU _ u_93)
  obtain ⟨c4, i4, k4⟩ := u_known (C := RX2) (T := TX2) (N := 10) (n := 10) hU in_X2 (hU _ u_200)
  obtain ⟨c5, i5, k5⟩ := u_known (C := RX3) (T := TX3) (N := 4) (n := 4) hU in_X3 (hU _ u_166)
  obtain ⟨c6, i6, k6⟩ := u_known (C := RX4) (T := TX4) (N := 1) (n := 1) hU in_X4 (hU _ u_99)
  obtain ⟨c7, i7, k7⟩ := u_known (C := RX5) (T := TX5) (N := 11) (n := 11) hU in_X5 (hU _ u_192)
  obtain ⟨c8, i8, k8⟩ := u_known (C := RX6) (T := TX6) (N := 6) (n := 6) hU in_X6 (hU _ u_85)
  obtain ⟨c9, i9, k9⟩ := u_known (C := RX7) (T := TX7) (N := 2) (n := 2) hU in_X7 (hU _ u_551)
  obtain ⟨c10, i10, k10⟩ := u_known (C := RX8) (T := TX8) (N := 7) (n := 7) hU in_X8 (hU _ u_1195)
  obtain ⟨c11, i11, k11⟩ := u_known (C := RX9) (T := TX9) (N := 17) (n := 17) hU in_X9 (hU _ u_1189)
  obtain ⟨D, hKc⟩ : ∃ D : va_G, ∀ (k : Nat) (q : vw_C), vwCl[k]? = some q → u_Kn s q.1 q.2.1 q.2.2 (D.1 k) (D.2 k) := by
    refine ⟨(fun k => match k with | 0 => c0 | 1 => c1 | 2 => c2 | 3 => c3 | 4 => c4 | 5 => c5 | 6 => c6 | 7 => c7 | 8 => c8 | 9 => c9 | 10 => c10 | 11 => c11 | _ => c0, fun k => match k with | 0 => i0 | 1 => i1 | 2 => i2 | 3 => i3 | 4 => i4 | 5 => i5 | 6 => i6 | 7 => i7 | 8 => i8 | 9 => i9 | 10 => i10 | 11 => i11 | _ => i0), ?_⟩
    intro k q hq
    match k, hq with
    | 0, hq => cases hq; exact k0
    | 1, hq => cases hq; exact k1
    | 2, hq => cases hq; exact k2
    | 3, hq => cases hq; exact k3
    | 4, hq => cases hq; exact k4
    | 5, hq => cases hq; exact k5
    | 6, hq => cases hq; exact k6
    | 7, hq => cases hq; exact k7
    | 8, hq => cases hq; exact k8
    | 9, hq => cases hq; exact k9
    | 10, hq => cases hq; exact k10
    | 11, hq => cases hq; exact k11
    | k + 12, hq => simp [vwCl] at hq
  obtain ⟨a_byte, ka_byte, co_byte, f1_byte, f2_byte, f3_byte⟩ := Cond.arrayClass_spec (hU _ u_638)
  obtain ⟨a_int, ka_int, co_int, f1_int, f2_int, f3_int⟩ := Cond.arrayClass_spec (hU _ u_108)
  obtain ⟨a_boolean, ka_boolean, co_boolean, f1_boolean, f2_boolean, f3_boolean⟩ := Cond.arrayClass_spec (hU _ u_1289)
  have o_int : va_AOA .int s := va_AOA.of (A := #[Value.ref b]) (hts _ (List.mem_of_getElem? (i := 1232) (by decide +kernel)))
  obtain ⟨cc_int, aa_int, kk_int, g1_int, g2_int, g3_int, g4_int⟩ := o_int.facts
  have o_boolean : va_AOA .boolean s := va_AOA.of (A := #[Value.ref b]) (hts _ (List.mem_of_getElem? (i := 1230) (by decide +kernel)))
  obtain ⟨cc_boolean, aa_boolean, kk_boolean, g1_boolean, g2_boolean, g3_boolean, g4_boolean⟩ := o_boolean.facts
  obtain ⟨cy, hcy⟩ : ∃ cy : Nat → ClassId, cy 0 = a_byte ∧ cy 1 = a_int ∧ cy 2 = a_boolean ∧ cy 3 = aa_int ∧ cy 4 = aa_boolean := ⟨fun k => match k with | 0 => a_byte | 1 => a_int | 2 => a_boolean | 3 => aa_int | _ => aa_boolean, rfl, rfl, rfl, rfl, rfl⟩
  obtain ⟨e0, e1, e2, e3, e4⟩ := hcy
  refine ⟨D, cy, ⟨⟨hKc, fun k q hq => ?_⟩, fun w hw => ?_, fun q hq => ?_, o_int, o_boolean, fun q hq => ?_, fun w hw => ?_⟩, ?_, ?_, ?_⟩
  · match k, hq with
    | 0, hq => cases hq; rw [e0]; exact ⟨y_arrO f2_byte f3_byte, f1_byte⟩
    | 1, hq => cases hq; rw [e1]; exact ⟨y_arrO f2_int f3_int, f1_int⟩
    | 2, hq => cases hq; rw [e2]; exact ⟨y_arrO f2_boolean f3_boolean, f1_boolean⟩
    | 3, hq => cases hq; rw [e3]; exact ⟨y_arrO g2_int g3_int, g4_int⟩
    | 4, hq => cases hq; rw [e4]; exact ⟨y_arrO g2_boolean g3_boolean, g4_boolean⟩
    | k + 5, hq => simp [xn_tys] at hq
  · exact va_any (xn_nw_tab w hw) (hts w (y_memF (xn_nw_at ▸ hw)))
  · exact y_str (hts _ (y_memF (xn_str_at ▸ List.mem_map.mpr ⟨q, hq, rfl⟩)))
  · have hall : ∀ q ∈ xn_nc, Cond.not (.castable q.1 q.2) ∈ flatC (Jvm.Cond.and given_1 narrow_1) := by decide +kernel
    exact va_Nc.of (hs _ (hall q hq))
  · rw [List.mem_singleton.mp hw]
    have hsel : (Cond.selects RJ4 yJ5_ensureCapacityInternal_d00df yJ5_ensureCapacityInternal_d00df).before #[Value.ref b] s = true := y_selJ (C := RJ4) (y := yJ5_ensureCapacityInternal_d00df) (z := yJ5_isLatin1_aae02) (by decide +kernel) rfl (List.mem_of_getElem? (i := 984) (by decide +kernel)) (List.mem_of_getElem? (i := 951) (by decide +kernel)) (List.mem_of_getElem? (i := 952) (by decide +kernel)) hts
    exact va_any rfl hsel
  · exact vx_Zqof (hts _ (List.mem_of_getElem? (i := 598) (by decide +kernel))) (hts _ (List.mem_of_getElem? (i := 67) (by decide +kernel))) (hs _ (by decide +kernel)) (fun a h => Nat.not_le.mpr h)
  · exact vx_Zqof (hts _ (List.mem_of_getElem? (i := 600) (by decide +kernel))) (hts _ (List.mem_of_getElem? (i := 67) (by decide +kernel))) (hs _ (by decide +kernel)) (fun a h => Nat.not_le.mpr h)
  · exact va_Zof (hts _ (List.mem_of_getElem? (i := 917) (by decide +kernel))) (hts _ (List.mem_of_getElem? (i := 77) (by decide +kernel))) (va_eqi (hs _ (by decide +kernel))) (fun a h => Nat.not_le.mpr h)
