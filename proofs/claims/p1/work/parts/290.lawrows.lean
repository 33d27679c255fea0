section XL
variable {p : Program} {l : Launch} {e : Env} {R : Room} {s : State} {m : MethodId} {args : Array Value} {below : List Frame} {meth : Method} {c : Code} {cc : ByteArray} {own : String} {D : va_G} {cy : Nat → ClassId} {A : Nat → Prop} {H0 : Heap} {nL : Nat} {Q : State → Prop} {bs : List va_W} {cells slots : Nat} {lv : List (Nat × Value)} {pc n : Nat} {st : List Value}
def yCatch (own : String) (hh : List (Nat × Nat × Nat × Nat)) (pc : Nat) (E : String) (hp : Nat) : Prop := ∃ (pre : List ExceptionTableEntry) (x : ExceptionTableEntry) (suf : List ExceptionTableEntry) (name : String), tableOf hh = pre ++ x :: suf ∧ (∀ z ∈ pre, covers z pc = false ∨ (z.catchType ≠ 0 ∧ ∃ nm : String, Cond.classLink own z.catchType nm ∈ yU ∧ (E, nm) ∈ xn_nc)) ∧ covers x pc = true ∧ x.catchType ≠ 0 ∧ Cond.classLink own x.catchType name ∈ yU ∧ Cond.castable E name ∈ xn_nw ∧ x.handlerPc = hp
theorem yw_callX {b1 b2 : List va_W} {mc' ms' : Nat} {H : Heap} {locs : List Loc} {ls : Array Slot} {st0 rest : List Value} {a : Array Value} {post : Option Value → List va_W → Prop} {px : String → List va_W → Prop} (hr : vx_Run p l e R s m args below meth c H locs cells slots mc' ms' (F0 m pc ls st0) rest (yQ D b1 H.size post a) (yXC D b1 H.size px) (va_A b1.flatten H.size)) (hB : XB D A (b1 ++ b2) H) (hS : va_S A H0 H locs) (hA : ∀ q, H0.size ≤ q → A q)
    (kx : ∀ (E : String) (ce : Cell) (q : Addr) (u : List va_W) (H1 : Heap) (locs1 : List Loc), px E u → XB D A (u ++ b2) H1 → va_S A H0 H1 locs1 → H1[q]? = some ce → ce.vm = .none → s.vm.findClass E = some ce.cls → vx_W p l e R s m args below meth c H1 locs1 (cells + mc') (slots + ms') Q (F0 m pc ls rest) q)
    (kk : ∀ (v : Option Value) (u : List va_W) (H1 : Heap) (locs1 : List Loc), post v u → XB D A (u ++ b2) H1 → va_S A H0 H1 locs1 → W p l e R s m args below meth c H1 locs1 (cells + mc') (slots + ms') Q (F0 m (pc + 3) ls (v.toList ++ rest))) : W p l e R s m args below meth c H locs cells slots Q (F0 m pc ls st0) := by
  intro T hT Xs
  have hF := xw_free hB hS hA
  have nS : ∀ (L : List Loc) (H1 : Heap), (∀ q ∈ L, va_A b1.flatten H.size q.base) → H.size ≤ H1.size → (∀ q : Nat, q < H.size → ¬ va_A b1.flatten H.size q → H1[q]? = H[q]?) → va_S A H0 H1 (locs ++ L) := fun L H1 hL hz hk => ⟨Nat.le_trans hS.1 hz, fun q h1 h2 => by rw [hk q (Nat.lt_of_lt_of_le h1 hS.1) (fun z => h2 (hF q z))]; exact hS.2.1 q h1 h2, fun q hq => by
      rcases List.mem_append.mp hq with h | h
      · exact hS.2.2 q h
      · exact hF _ (hL q h)⟩
  rcases hr T hT Xs with ⟨v, st₀, t, T', L, h0, X', hL, e1, e2, ⟨⟨v', u, hv, hp, hb⟩, hz, hk⟩, st⟩ | ⟨q, st₀, t, T', L, E, ce, h0, X', hL, e1, e2, ⟨⟨E', u⟩, hp, ⟨hE, hb⟩, hz, hk⟩, hce, hcv, hcl, st⟩
  · cases hv
    rw [h0] at hz hk
    obtain ⟨t2, a1, b1⟩ := kk v u T'.heap (locs ++ L) hp (xw_keep hB (fun q h1 h2 => by rw [e1]; exact hk q h1 h2) hF (by rw [e1]; exact hb.1) hb.2) (nS L T'.heap hL (by rw [e1]; exact hz) (fun q h1 h2 => by rw [e1]; exact hk q h1 h2)) T' rfl X'
    exact ⟨t2, st t2 a1, b1⟩
  · rw [h0] at hz hk
    obtain ⟨t2, a1, b1⟩ := kx E ce q u T'.heap (locs ++ L) (by rw [hE]; exact hp) (xw_keep hB (fun q h1 h2 => by rw [e1]; exact hk q h1 h2) hF (by rw [e1]; exact hb.1) hb.2) (nS L T'.heap hL (by rw [e1]; exact hz) (fun q h1 h2 => by rw [e1]; exact hk q h1 h2)) (by rw [e1]; exact hce) hcv hcl T' rfl X'
    exact ⟨t2, st.trans a1, b1⟩
theorem xr_callVX (C : YC p s m args c cc own D cy nL A H0) {y : MethodName} {bytes : ByteArray} {maxL index nA d' mc' ms' : Nat} {ret : Option FieldType} {b1 b2 : List va_W} {As rest : List Value} {post : Option Value → List va_W → Prop} {bo : Nat} {px : String → List va_W → Prop} {hh : List (Nat × Nat × Nat × Nat)} (htab : c.exceptionTable.toList = tableOf hh) (hM : YX l D cy y (.code y bytes maxL ret) d' mc' ms' (.ref bo :: As) b1 post px) (hy : yM y (.code y bytes maxL ret) nA) (h1 : Cond.methodLink own index y ∈ yU) (h2 : Cond.instanceMethod y ∈ yU) (h3 : Cond.selects y.cls y y ∈ yU) (jb : Nat) {fs : List Value} {ci : Nat} {TT : u_T} {N : Nat} (hjb : bs[jb]? = some [(bo, .inr (ci, fs))]) (hcl : vwCl[ci]? = some (y.cls, TT, N)) (N0 : Nat) (i1 i2 : List Nat) (hN0 : bs.length = N0) (hp : (i1 ++ i2).isPerm (List.range N0) = true) (h1p : i1.filterMap (fun i => bs[i]?) = b1) (h2p : i2.filterMap (fun i => bs[i]?) = b2) (hst : st = As.reverse ++ .ref bo :: rest) (hA : As.length = nA) (hW : (rest.map fun v => v.category).sum ≤ 8) (hfr : d' + 1 ≤ R.frames) (hlo : 8 + (maxL + 11) + 100 * d' ≤ R.locals) (hc : cells + mc' ≤ R.cells) (hs : slots + ms' ≤ R.slots) (d : decode cc pc = .ok (.invokevirtual index, 3)) (hn : pc + 3 = n)
    (kx : ∀ (E : String) (u : List va_W), px E u → ∃ hp, yCatch own hh pc E hp ∧ ∀ q : Nat, X p l e R s m args below meth c D A H0 nL Q (u ++ b2) (cells + mc') (slots + ms') lv hp ([.ref q])) (kk : ∀ (v : Option Value) (u : List va_W), post v u → X p l e R s m args below meth c D A H0 nL Q (u ++ b2) (cells + mc') (slots + ms') lv n (v.toList ++ rest)) : X p l e R s m args below meth c D A H0 nL Q bs cells slots lv pc st := by
  intro H locs ls hB hS hl
  subst hst
  obtain ⟨qr, hr0, -⟩ := xw_at bs jb 0 _ _ hjb rfl
  have hBp := hB.eqv (xw_idx i1 i2 (by rw [hN0]; exact hp) h1p h2p)
  refine yw_callX (post := post) (px := px) (vx_runV (As := As) (rest := rest) ⟨C.1, C.2.1, C.2.2.1, C.2.2.2.1, C.2.2.2.2.1⟩ (hM H.size) (cwV nA C.2.2.2.2.1 (yg_V hy h1 h2 h3) rfl rfl rfl ⟨rfl, hy.2.2.1, hy.2.2.2.1, hy.2.2.2.2⟩ ⟨hfr, hlo⟩) ⟨yblind, va_recv C.2.2.2.2.2.1.1 hB.1 hcl hr0, yw_pre C hBp hS⟩ rfl hA hl.1 rfl (lv_room hW) d ⟨hc, hs⟩) hBp hS C.2.2.2.2.2.2.1 (fun E ce q u H1 locs1 hw hB1 hS1 hce hcv hcl => ?_) (fun v u H1 locs1 hw hB1 hS1 => ?_)
  · obtain ⟨hp9, ⟨pre, x, suf, name, e1, e2, e3, e4, e5, e6, e7⟩, k9⟩ := kx E u hw
    refine vx_catch C.2.2.2.1 pre x suf (htab.trans e1) (fun z hz => ?_) e3 e4 (C.2.2.2.2.1 _ e5) (va_any (xn_nw_tab _ e6) (C.2.2.2.2.2.1.2.1 _ e6)) hce hcv hcl ?_
    · rcases e2 z hz with h | ⟨h, nm, h1, h2⟩
      · exact Or.inl h
      · exact Or.inr ⟨h, nm, C.2.2.2.2.1 _ h1, C.2.2.2.2.2.1.2.2.2.2.2.1 _ h2⟩
    · rw [e7]
      exact k9 q H1 locs1 ls hB1 hS1 hl
  · rw [hn]
    exact kk v u hw H1 locs1 ls hB1 hS1 hl
theorem xr_callSW (C : YC p s m args c cc own D cy nL A H0) {y : MethodName} {bytes : ByteArray} {maxL index nA d' mc' ms' : Nat} {ret : Option FieldType} {b1 b2 : List va_W} {As rest : List Value} {post : Option Value → List va_W → Prop} {hh : List (Nat × Nat × Nat × Nat)} (hM : YM l D cy y (.codeWith y bytes maxL ret hh) d' mc' ms' As b1 post) (hy : yM y (.codeWith y bytes maxL ret hh) nA) (h1 : Cond.methodLink own index y ∈ yU) (h2 : Cond.static y ∈ yU) (N0 : Nat) (i1 i2 : List Nat) (hN0 : bs.length = N0) (hp : (i1 ++ i2).isPerm (List.range N0) = true) (h1p : i1.filterMap (fun i => bs[i]?) = b1) (h2p : i2.filterMap (fun i => bs[i]?) = b2) (hst : st = As.reverse ++ rest) (hA : As.length = nA) (hW : (rest.map fun v => v.category).sum ≤ 8) (hfr : d' + 1 ≤ R.frames) (hlo : 8 + (maxL + 11) + 100 * d' ≤ R.locals) (hc : cells + mc' ≤ R.cells) (hs : slots + ms' ≤ R.slots) (d : decode cc pc = .ok (.invokestatic index, 3)) (hn : pc + 3 = n) (kk : ∀ (v : Option Value) (u : List va_W), post v u → X p l e R s m args below meth c D A H0 nL Q (u ++ b2) (cells + mc') (slots + ms') lv n (v.toList ++ rest)) : X p l e R s m args below meth c D A H0 nL Q bs cells slots lv pc st := by
  intro H locs ls hB hS hl
  subst hst
  have hBp := hB.eqv (xw_idx i1 i2 (by rw [hN0]; exact hp) h1p h2p)
  refine yw_call (post := post) (vx_runSW (As := As) (rest := rest) ⟨C.1, C.2.1, C.2.2.1, C.2.2.2.1, C.2.2.2.2.1⟩ (hM H.size) (vx_cwSW nA C.2.2.2.2.1 (yg_S hy h1 h2) rfl rfl rfl ⟨hy.2.2.1, hy.2.2.2.1, hy.2.2.2.2⟩ ⟨hfr, hlo⟩) ⟨yblind, yw_pre C hBp hS⟩ rfl hA hl.1 rfl (lv_room hW) d ⟨hc, hs⟩) hBp hS C.2.2.2.2.2.2.1 (fun v u H1 locs1 hw hB1 hS1 => ?_)
  rw [hn]
  exact kk v u hw H1 locs1 ls hB1 hS1 hl
theorem xr_callVP (C : YC p s m args c cc own D cy nL A H0) {y : MethodName} {bytes : ByteArray} {maxL index nA d' mc' ms' : Nat} {ret : Option FieldType} {b1 b2 : List va_W} {As rest : List Value} {post : Option Value → List va_W → Prop} {bo : Nat} (hM : YM l D cy y (.code y bytes maxL ret) d' mc' ms' (.ref bo :: As) b1 post) (hy : yM y (.code y bytes maxL ret) nA) (h1 : Cond.methodLink own index y ∈ yU) (h2 : Cond.instanceMethod y ∈ yU) (h3 : Cond.selects y.cls y y ∈ yU) (jb : Nat) {kb : va_W} {ci : Nat} {TT : u_T} {N : Nat} (hjb : bs[jb]? = some kb) (hkb : ∃ fs : List Value, kb[0]? = some (bo, .inr (ci, fs))) (hcl : vwCl[ci]? = some (y.cls, TT, N)) (N0 : Nat) (i1 i2 : List Nat) (hN0 : bs.length = N0) (hp : (i1 ++ i2).isPerm (List.range N0) = true) (h1p : i1.filterMap (fun i => bs[i]?) = b1) (h2p : i2.filterMap (fun i => bs[i]?) = b2) (hst : st = As.reverse ++ .ref bo :: rest) (hA : As.length = nA) (hW : (rest.map fun v => v.category).sum ≤ 8) (hfr : d' + 1 ≤ R.frames) (hlo : 8 + (maxL + 11) + 100 * d' ≤ R.locals) (hc : cells + mc' ≤ R.cells) (hs : slots + ms' ≤ R.slots) (d : decode cc pc = .ok (.invokevirtual index, 3)) (hn : pc + 3 = n) (kk : ∀ (v : Option Value) (u : List va_W), post v u → X p l e R s m args below meth c D A H0 nL Q (u ++ b2) (cells + mc') (slots + ms') lv n (v.toList ++ rest)) : X p l e R s m args below meth c D A H0 nL Q bs cells slots lv pc st := by
  intro H locs ls hB hS hl
  subst hst
  obtain ⟨fs, hkb⟩ := hkb
  obtain ⟨qr, hr0, -⟩ := xw_at bs jb 0 _ _ hjb hkb
  have hBp := hB.eqv (xw_idx i1 i2 (by rw [hN0]; exact hp) h1p h2p)
  refine yw_call (post := post) (va_runV (As := As) (rest := rest) ⟨C.1, C.2.1, C.2.2.1, C.2.2.2.1, C.2.2.2.2.1⟩ (hM H.size) (cwV nA C.2.2.2.2.1 (yg_V hy h1 h2 h3) rfl rfl rfl ⟨rfl, hy.2.2.1, hy.2.2.2.1, hy.2.2.2.2⟩ ⟨hfr, hlo⟩) ⟨yblind, va_recv C.2.2.2.2.2.1.1 hB.1 hcl hr0, yw_pre C hBp hS⟩ rfl hA hl.1 rfl (lv_room hW) d ⟨hc, hs⟩) hBp hS C.2.2.2.2.2.2.1 (fun v u H1 locs1 hw hB1 hS1 => ?_)
  rw [hn]
  exact kk v u hw H1 locs1 ls hB1 hS1 hl
theorem xr_sld (C : YC p s m args c cc own D cy nL A H0) {b L : Nat} {xs : Nat → Int32} {i : Int32} (hX : va_X b L xs s H0) (hbl : b < H0.size) (hbA : ¬ A b) (hin : vp_in i L) (d : decode cc pc = .ok (.iaload, 1)) (hn : pc + 1 = n) (k : X p l e R s m args below meth c D A H0 nL Q bs cells slots lv n (.int (xs i.toNatClampNeg) :: st)) : X p l e R s m args below meth c D A H0 nL Q bs cells slots lv pc (.int i :: .ref b :: st) := fun H locs ls hB hS hl => va_sld C.1 C.2.1 hX hbl hbA hS hin d (by rw [hn]; exact k H locs ls hB hS hl)
theorem xr_slen (C : YC p s m args c cc own D cy nL A H0) {b L : Nat} {xs : Nat → Int32} (hX : va_X b L xs s H0) (hbl : b < H0.size) (hbA : ¬ A b) (d : decode cc pc = .ok (.arraylength, 1)) (hn : pc + 1 = n) (k : X p l e R s m args below meth c D A H0 nL Q bs cells slots lv n (.int (nI L) :: st)) : X p l e R s m args below meth c D A H0 nL Q bs cells slots lv pc (.ref b :: st) := fun H locs ls hB hS hl => va_slen C.1 C.2.1 hX hbl hbA hS d (by rw [hn]; exact k H locs ls hB hS hl)
theorem xr_pop2L (C : YC p s m args c cc own D cy nL A H0) {x : Int64} (d : decode cc pc = .ok (.pop2, 1)) (hn : pc + 1 = n) (k : X p l e R s m args below meth c D A H0 nL Q bs cells slots lv n st) : X p l e R s m args below meth c D A H0 nL Q bs cells slots lv pc (.long x :: st) := fun H locs ls hB hS hl => lv_pop2_2 C.1 C.2.1 d rfl (by rw [hn]; exact k H locs ls hB hS hl)
/-- many blocks as one, and back -/
theorem xr_pack (bl rest : List va_W) (h : bs = bl ++ rest) (k : X p l e R s m args below meth c D A H0 nL Q (bl.flatten :: rest) cells slots lv pc st) : X p l e R s m args below meth c D A H0 nL Q bs cells slots lv pc st := by
  subst h
  refine xr_flat ?_ k
  rw [List.flatten_append, List.flatten_cons]
theorem xr_unpack (bl rest : List va_W) (h : bs = bl.flatten :: rest) (k : X p l e R s m args below meth c D A H0 nL Q (bl ++ rest) cells slots lv pc st) : X p l e R s m args below meth c D A H0 nL Q bs cells slots lv pc st := by
  subst h
  refine xr_flat ?_ k
  rw [List.flatten_append, List.flatten_cons]
end XL
theorem y_ofWH {l : Launch} {y : MethodName} {ws ws' : List Cond} {rm : Room} {Pc : Array Value → State → Prop} {Qc : Array Value → State → Outcome → State → Prop} {mc ms : Nat} {free : Addr → Prop} {cc : ByteArray} {maxL : Nat} {ret : Option FieldType} {hh : List (Nat × Nat × Nat × Nat)}
    (hy : plainName y.cls = true) (hw : ws = Cond.codeWith y cc maxL ret hh :: ws')
    (body : ∀ p e s m args below meth c s₁, BodyLoose p l y (headSpec ws rm) cc maxL ret e s m args below meth c s₁ → c.maxLocals = maxL → c.exceptionTable.toList = tableOf hh → Pc args s →
      W p l e (headSpec ws rm).room s m args below meth c s.heap [] 0 0 (MQ below Qc args s mc ms free) (entryFrame m args maxL)) : Met l y ws rm Pc Qc mc ms free := by
  refine MetFree.of_bodyS (code := cc) (maxLocals := maxL) (ret := ret) hy ?_ ?_
  · intro args s m h hn
    obtain ⟨m9, meth, c, hn9, h1, h2, h3, h4, -, h5, h6, -⟩ := Cond.codeWith_spec (atoms_spec (ws := ws) h _ (by rw [hw]; exact List.mem_cons_self))
    cases hn.symm.trans hn9
    exact ⟨meth, c, h1, h2, h3, h4, h5, h6⟩
  · intro p e s m args below meth c s₁ B hml hP _
    have hh0 : s₁.heap = s.heap := by rw [B.state]; rfl
    have ht := vx_table (x := y) B (atoms_spec (ws := ws) B.pre _ (by rw [hw]; exact List.mem_cons_self))
    obtain ⟨t, a1, o, b1, b2, b3⟩ := body p e s m args below meth c s₁ B hml ht hP s₁ hh0 (Stand.of_body B)
    exact ⟨t, o, a1, b1, b2, b3⟩
theorem YM.ofIW {l : Launch} {D : va_G} {cy : Nat → ClassId} {y : MethodName} {hd : Cond} {d mc ms maxL : Nat} {cc : ByteArray} {hh : List (Nat × Nat × Nat × Nat)} {av : List Value} {bs : List va_W} {post : Option Value → List va_W → Prop} (hy : plainName y.cls = true) (hw : hd = Cond.codeWith y cc maxL (some .int) hh) (hav : (lg_sl av).length ≤ maxL) (lv0 : List (Nat × Value)) (hlv : lv_args 0 av = lv0)
    (body : ∀ (p : Program) (e : Env) (s : State) (m : MethodId) (args : Array Value) (below : List Frame) (meth : Method) (c : Code) (A : Nat → Prop) (H0 : Heap) (Q : State → Prop), YC p s m args c cc y.cls D cy maxL A H0 → c.exceptionTable.toList = tableOf hh →
      (∀ {u : List va_W} {cells slots : Nat} {lv : List (Nat × Value)} {pc : Nat} (v : Int32), post (some (.int v)) u → cells ≤ mc → slots ≤ ms → decode cc pc = .ok (.ireturn, 1) → X p l e (yR d mc ms) s m args below meth c D A H0 maxL Q u cells slots lv pc [.int v]) →
      X p l e (yR d mc ms) s m args below meth c D A H0 maxL Q bs 0 0 lv0 0 []) : YM l D cy y hd d mc ms av bs post := by
  intro sz
  subst hlv
  refine y_ofWH (cc := cc) (maxL := maxL) (ret := some .int) (hh := hh) hy (by rw [hw]) ?_
  intro p e s m args below meth c s₁ B hml htab hv
  obtain ⟨rfl, hsz, hP, hK, hD0, hZ⟩ := hv
  have hown : s.vm.findClass y.cls = some m.cls := findClass_of_methodNamed B.named
  rw [lg_entry_eq]
  subst hsz
  have hr := B.returns
  have hlk := B.notSynchronized
  have C : YC p s m av.toArray c cc y.cls D cy maxL (va_A bs.flatten s.heap.size) s.heap := ⟨B.exec, B.bytes, hml, hown, yhd B.pre, hK, fun q h => Or.inr h, hZ⟩
  have k := body p e s m _ below meth c _ _ (MQ below (yQ D bs s.heap.size post) av.toArray s mc ms (va_A bs.flatten s.heap.size)) C htab (fun {u cells slots lv pc} v hp hc hs d => ?_) s.heap [] _ ⟨hP, hD0.self⟩ va_S.rf (lv_entry av hav)
  · exact k
  · intro H locs ls hB hS hl
    refine W.widen hc hs ?_
    exact W.iret (v := v) C.1 C.2.1 hr (fun t ht hW => ⟨⟨(some (.int v)), u, rfl, hp, by rw [ht]; exact hB.1, hB.2⟩, hS.F ht⟩) hS.2.2 d hlk
/-- a contract over a larger world, its blocks put together otherwise -/
theorem YM.wide {l : Launch} {D : va_G} {cy : Nat → ClassId} {y : MethodName} {hd : Cond} {d mc ms : Nat} {av : List Value} {b1 b2 bs : List va_W} {post post' : Option Value → List va_W → Prop} (h : YM l D cy y hd d mc ms av b1 post) (hp : bs.flatten.Perm (b1 ++ b2).flatten) (hpost : ∀ v u, post v u → ∃ u', post' v u' ∧ ∃ r, (u ++ b2).flatten.Perm (u'.flatten ++ r)) : YM l D cy y hd d mc ms av bs post' := by
  intro sz
  have hmem : ∀ x, x ∈ b1.flatten → x ∈ bs.flatten := fun x hx => hp.mem_iff.mpr (by rw [List.flatten_append]; exact List.mem_append_left _ hx)
  have hsub : ∀ q, va_A b1.flatten sz q → va_A bs.flatten sz q := by
    intro q hq
    rcases hq with ⟨k, e, hk⟩ | hq
    · obtain ⟨j, hj⟩ := List.getElem?_of_mem (hmem _ (List.mem_of_getElem? hk))
      exact Or.inl ⟨j, e, hj⟩
    · exact Or.inr hq
  intro p e hadm hc1 hc2 s m args below hf happ hP hK
  obtain ⟨hav, hsz, hPP, hYK, hD, hZ⟩ := hP
  subst hsz
  have hB0 : XB D (va_A bs.flatten s.heap.size) bs s.heap := ⟨hPP, hD.self⟩
  have hB : XB D (va_A bs.flatten s.heap.size) (b1 ++ b2) s.heap := hB0.sublist ⟨[], by rw [List.append_nil]; exact hp⟩
  have hB1 : XB D (va_A bs.flatten s.heap.size) b1 s.heap := hB.perm (List.Perm.refl _)
  obtain ⟨n, o, w1, w2, w3, ⟨⟨v, u, ho, hpst, hb⟩, hz, hk⟩, L, hL1, hL2⟩ := h s.heap.size p e hadm hc1 hc2 s m args below hf happ ⟨hav, rfl, hB1.1, hYK, hB1.2.weaken (fun _ _ _ _ => trivial), hZ.narrow hsub⟩ hK
  obtain ⟨u', hp', r, hr⟩ := hpost v u hpst
  have hB2 := (xw_keep hB hk hsub hb.1 hb.2).sublist ⟨r, hr⟩
  exact ⟨n, o, w1, w2, w3, ⟨⟨v, u', ho, hp', hB2.1, hB2.2⟩, hz, fun q hq hn => hk q hq (fun z => hn (hsub q z))⟩, L, hL1, fun q hq => hsub _ (hL2 q hq)⟩
