/-- the bytes from a place on -/
def dk_S (c : ByteArray) (p : Nat) : List UInt8 := c.data.toList.drop p
theorem dk_next {c : ByteArray} {p : Nat} {b : UInt8} {l : List UInt8} (h : dk_S c p = b :: l) : dk_S c (p + 1) = l := by
  unfold dk_S at h ⊢
  rw [List.drop_add_one_eq_tail_drop, h]; rfl
theorem dk_get {c : ByteArray} {p : Nat} {b : UInt8} {l : List UInt8} (h : dk_S c p = b :: l) : (Jvm.ClassFile.Reader.u1 : Jvm.ClassFile.Decoder Nat).runAt c p = .ok (b.toNat, p + 1) := by
  obtain ⟨⟨xs⟩⟩ := c
  have h' : xs.drop p = b :: l := h
  have hlt : p < xs.length := Nat.lt_of_not_le fun hle => by
    rw [List.drop_eq_nil_of_le hle] at h'; cases h'
  have hb : xs[p] = b := by
    have h2 := List.drop_eq_getElem_cons hlt
    rw [h'] at h2
    exact (List.cons.inj h2).1.symm
  have hlt' : p < (ByteArray.mk ⟨xs⟩).size := hlt
  have hc : (ByteArray.mk ⟨xs⟩)[p]'hlt' = xs[p] := rfl
  have hs : (dite (p < (ByteArray.mk ⟨xs⟩).size) (fun h => ((do set (p + 1); pure ((ByteArray.mk ⟨xs⟩)[p]'h).toNat) : Jvm.ClassFile.Decoder Nat)) (fun _ => throw (Jvm.ClassFile.HasTruncated.truncated p))) (ByteArray.mk ⟨xs⟩) p = .ok (b.toNat, p + 1) := by
    rw [dif_pos hlt']
    show Except.ok (((ByteArray.mk ⟨xs⟩)[p]'hlt').toNat, p + 1) = _
    rw [hc, hb]
  exact hs
theorem dk_bind {α β : Type} (r : Jvm.ClassFile.Decoder α) (F : α → Jvm.ClassFile.Decoder β) {c : ByteArray} {p p' : Nat} {a : α} (h : Jvm.ClassFile.Reader.runAt r c p = .ok (a, p')) : Jvm.ClassFile.Reader.runAt (r >>= F) c p = Jvm.ClassFile.Reader.runAt (F a) c p' := by
  have h' : r c p = .ok (a, p') := h
  show (bind (r c p) (fun x => F x.1 c x.2) : Except Jvm.ClassFile.DecodeError (β × Nat)) = F a c p'
  rw [h']; rfl
theorem dk_map {α β : Type} (r : Jvm.ClassFile.Decoder α) (f : α → β) {c : ByteArray} {p p' : Nat} {a : α} (h : Jvm.ClassFile.Reader.runAt r c p = .ok (a, p')) : Jvm.ClassFile.Reader.runAt (f <$> r) c p = .ok (f a, p') := by
  have h' : r c p = .ok (a, p') := h
  show (bind (r c p) (fun x => Except.ok (f x.1, x.2)) : Except Jvm.ClassFile.DecodeError (β × Nat)) = _
  rw [h']; rfl
theorem dk_u2 {c : ByteArray} {p : Nat} {b b2 : UInt8} {l : List UInt8} (h : dk_S c p = b :: b2 :: l) : (Jvm.ClassFile.Reader.u2 : Jvm.ClassFile.Decoder Nat).runAt c p = .ok (b.toNat * 256 + b2.toNat, p + 2) := by
  unfold Jvm.ClassFile.Reader.u2
  rw [dk_bind _ _ (dk_get h), dk_bind _ _ (dk_get (dk_next h))]; rfl
theorem dk_dec {c : ByteArray} {p n : Nat} {i : Instr} (h : Jvm.ClassFile.Reader.runAt (Jvm.ClassFile.Decoder.instr p) c p = .ok (i, p + n)) : decode c p = .ok (i, n) := by
  unfold decode
  rw [h]
  show Except.ok (i, p + n - p) = _
  rw [Nat.add_sub_cancel_left]
def dk_O1 (n : Nat) (i : Instr) : Prop := ∀ (c : ByteArray) (p : Nat) (b : UInt8) (l : List UInt8), dk_S c p = b :: l → b.toNat = n → decode c p = .ok (i, 1)
def dk_O2 (n : Nat) (f : Nat → Instr) : Prop := ∀ (c : ByteArray) (p : Nat) (b b1 : UInt8) (l : List UInt8), dk_S c p = b :: b1 :: l → b.toNat = n → decode c p = .ok (f b1.toNat, 2)
def dk_O3 (n : Nat) (f : Nat → Nat → Instr) : Prop := ∀ (c : ByteArray) (p : Nat) (b b1 b2 : UInt8) (l : List UInt8), dk_S c p = b :: b1 :: b2 :: l → b.toNat = n → decode c p = .ok (f b1.toNat b2.toNat, 3)
theorem dk_1_1 : dk_O1 1 (.aconst_null) := fun c p b l h hb => dk_dec (n := 1) (by unfold Jvm.ClassFile.Decoder.instr; rw [dk_bind _ _ (dk_get h), hb]; all_goals rfl)
theorem dk_1_2 : dk_O1 2 (.iconst (-1)) := fun c p b l h hb => dk_dec (n := 1) (by unfold Jvm.ClassFile.Decoder.instr; rw [dk_bind _ _ (dk_get h), hb]; all_goals rfl)
theorem dk_1_3 : dk_O1 3 (.iconst (0)) := fun c p b l h hb => dk_dec (n := 1) (by unfold Jvm.ClassFile.Decoder.instr; rw [dk_bind _ _ (dk_get h), hb]; all_goals rfl)
theorem dk_1_4 : dk_O1 4 (.iconst (1)) := fun c p b l h hb => dk_dec (n := 1) (by unfold Jvm.ClassFile.Decoder.instr; rw [dk_bind _ _ (dk_get h), hb]; all_goals rfl)
theorem dk_1_5 : dk_O1 5 (.iconst (2)) := fun c p b l h hb => dk_dec (n := 1) (by unfold Jvm.ClassFile.Decoder.instr; rw [dk_bind _ _ (dk_get h), hb]; all_goals rfl)
theorem dk_1_6 : dk_O1 6 (.iconst (3)) := fun c p b l h hb => dk_dec (n := 1) (by unfold Jvm.ClassFile.Decoder.instr; rw [dk_bind _ _ (dk_get h), hb]; all_goals rfl)
theorem dk_1_7 : dk_O1 7 (.iconst (4)) := fun c p b l h hb => dk_dec (n := 1) (by unfold Jvm.ClassFile.Decoder.instr; rw [dk_bind _ _ (dk_get h), hb]; all_goals rfl)
theorem dk_1_8 : dk_O1 8 (.iconst (5)) := fun c p b l h hb => dk_dec (n := 1) (by unfold Jvm.ClassFile.Decoder.instr; rw [dk_bind _ _ (dk_get h), hb]; all_goals rfl)
theorem dk_1_9 : dk_O1 9 (.lconst 0) := fun c p b l h hb => dk_dec (n := 1) (by unfold Jvm.ClassFile.Decoder.instr; rw [dk_bind _ _ (dk_get h), hb]; all_goals rfl)
theorem dk_1_10 : dk_O1 10 (.lconst 1) := fun c p b l h hb => dk_dec (n := 1) (by unfold Jvm.ClassFile.Decoder.instr; rw [dk_bind _ _ (dk_get h), hb]; all_goals rfl)
theorem dk_1_26 : dk_O1 26 (.iload_n 0) := fun c p b l h hb => dk_dec (n := 1) (by unfold Jvm.ClassFile.Decoder.instr; rw [dk_bind _ _ (dk_get h), hb]; all_goals rfl)
theorem dk_1_27 : dk_O1 27 (.iload_n 1) := fun c p b l h hb => dk_dec (n := 1) (by unfold Jvm.ClassFile.Decoder.instr; rw [dk_bind _ _ (dk_get h), hb]; all_goals rfl)
theorem dk_1_28 : dk_O1 28 (.iload_n 2) := fun c p b l h hb => dk_dec (n := 1) (by unfold Jvm.ClassFile.Decoder.instr; rw [dk_bind _ _ (dk_get h), hb]; all_goals rfl)
theorem dk_1_29 : dk_O1 29 (.iload_n 3) := fun c p b l h hb => dk_dec (n := 1) (by unfold Jvm.ClassFile.Decoder.instr; rw [dk_bind _ _ (dk_get h), hb]; all_goals rfl)
theorem dk_1_30 : dk_O1 30 (.lload_n 0) := fun c p b l h hb => dk_dec (n := 1) (by unfold Jvm.ClassFile.Decoder.instr; rw [dk_bind _ _ (dk_get h), hb]; all_goals rfl)
theorem dk_1_31 : dk_O1 31 (.lload_n 1) := fun c p b l h hb => dk_dec (n := 1) (by unfold Jvm.ClassFile.Decoder.instr; rw [dk_bind _ _ (dk_get h), hb]; all_goals rfl)
theorem dk_1_32 : dk_O1 32 (.lload_n 2) := fun c p b l h hb => dk_dec (n := 1) (by unfold Jvm.ClassFile.Decoder.instr; rw [dk_bind _ _ (dk_get h), hb]; all_goals rfl)
theorem dk_1_33 : dk_O1 33 (.lload_n 3) := fun c p b l h hb => dk_dec (n := 1) (by unfold Jvm.ClassFile.Decoder.instr; rw [dk_bind _ _ (dk_get h), hb]; all_goals rfl)
theorem dk_1_42 : dk_O1 42 (.aload_n 0) := fun c p b l h hb => dk_dec (n := 1) (by unfold Jvm.ClassFile.Decoder.instr; rw [dk_bind _ _ (dk_get h), hb]; all_goals rfl)
theorem dk_1_43 : dk_O1 43 (.aload_n 1) := fun c p b l h hb => dk_dec (n := 1) (by unfold Jvm.ClassFile.Decoder.instr; rw [dk_bind _ _ (dk_get h), hb]; all_goals rfl)
theorem dk_1_44 : dk_O1 44 (.aload_n 2) := fun c p b l h hb => dk_dec (n := 1) (by unfold Jvm.ClassFile.Decoder.instr; rw [dk_bind _ _ (dk_get h), hb]; all_goals rfl)
theorem dk_1_45 : dk_O1 45 (.aload_n 3) := fun c p b l h hb => dk_dec (n := 1) (by unfold Jvm.ClassFile.Decoder.instr; rw [dk_bind _ _ (dk_get h), hb]; all_goals rfl)
theorem dk_1_46 : dk_O1 46 (.iaload) := fun c p b l h hb => dk_dec (n := 1) (by unfold Jvm.ClassFile.Decoder.instr; rw [dk_bind _ _ (dk_get h), hb]; all_goals rfl)
theorem dk_1_50 : dk_O1 50 (.aaload) := fun c p b l h hb => dk_dec (n := 1) (by unfold Jvm.ClassFile.Decoder.instr; rw [dk_bind _ _ (dk_get h), hb]; all_goals rfl)
theorem dk_1_51 : dk_O1 51 (.baload) := fun c p b l h hb => dk_dec (n := 1) (by unfold Jvm.ClassFile.Decoder.instr; rw [dk_bind _ _ (dk_get h), hb]; all_goals rfl)
theorem dk_1_59 : dk_O1 59 (.istore_n 0) := fun c p b l h hb => dk_dec (n := 1) (by unfold Jvm.ClassFile.Decoder.instr; rw [dk_bind _ _ (dk_get h), hb]; all_goals rfl)
theorem dk_1_60 : dk_O1 60 (.istore_n 1) := fun c p b l h hb => dk_dec (n := 1) (by unfold Jvm.ClassFile.Decoder.instr; rw [dk_bind _ _ (dk_get h), hb]; all_goals rfl)
theorem dk_1_61 : dk_O1 61 (.istore_n 2) := fun c p b l h hb => dk_dec (n := 1) (by unfold Jvm.ClassFile.Decoder.instr; rw [dk_bind _ _ (dk_get h), hb]; all_goals rfl)
theorem dk_1_62 : dk_O1 62 (.istore_n 3) := fun c p b l h hb => dk_dec (n := 1) (by unfold Jvm.ClassFile.Decoder.instr; rw [dk_bind _ _ (dk_get h), hb]; all_goals rfl)
theorem dk_1_63 : dk_O1 63 (.lstore_n 0) := fun c p b l h hb => dk_dec (n := 1) (by unfold Jvm.ClassFile.Decoder.instr; rw [dk_bind _ _ (dk_get h), hb]; all_goals rfl)
theorem dk_1_64 : dk_O1 64 (.lstore_n 1) := fun c p b l h hb => dk_dec (n := 1) (by unfold Jvm.ClassFile.Decoder.instr; rw [dk_bind _ _ (dk_get h), hb]; all_goals rfl)
theorem dk_1_65 : dk_O1 65 (.lstore_n 2) := fun c p b l h hb => dk_dec (n := 1) (by unfold Jvm.ClassFile.Decoder.instr; rw [dk_bind _ _ (dk_get h), hb]; all_goals rfl)
theorem dk_1_66 : dk_O1 66 (.lstore_n 3) := fun c p b l h hb => dk_dec (n := 1) (by unfold Jvm.ClassFile.Decoder.instr; rw [dk_bind _ _ (dk_get h), hb]; all_goals rfl)
theorem dk_1_75 : dk_O1 75 (.astore_n 0) := fun c p b l h hb => dk_dec (n := 1) (by unfold Jvm.ClassFile.Decoder.instr; rw [dk_bind _ _ (dk_get h), hb]; all_goals rfl)
theorem dk_1_76 : dk_O1 76 (.astore_n 1) := fun c p b l h hb => dk_dec (n := 1) (by unfold Jvm.ClassFile.Decoder.instr; rw [dk_bind _ _ (dk_get h), hb]; all_goals rfl)
theorem dk_1_77 : dk_O1 77 (.astore_n 2) := fun c p b l h hb => dk_dec (n := 1) (by unfold Jvm.ClassFile.Decoder.instr; rw [dk_bind _ _ (dk_get h), hb]; all_goals rfl)
theorem dk_1_78 : dk_O1 78 (.astore_n 3) := fun c p b l h hb => dk_dec (n := 1) (by unfold Jvm.ClassFile.Decoder.instr; rw [dk_bind _ _ (dk_get h), hb]; all_goals rfl)
theorem dk_1_79 : dk_O1 79 (.iastore) := fun c p b l h hb => dk_dec (n := 1) (by unfold Jvm.ClassFile.Decoder.instr; rw [dk_bind _ _ (dk_get h), hb]; all_goals rfl)
theorem dk_1_83 : dk_O1 83 (.aastore) := fun c p b l h hb => dk_dec (n := 1) (by unfold Jvm.ClassFile.Decoder.instr; rw [dk_bind _ _ (dk_get h), hb]; all_goals rfl)
theorem dk_1_84 : dk_O1 84 (.bastore) := fun c p b l h hb => dk_dec (n := 1) (by unfold Jvm.ClassFile.Decoder.instr; rw [dk_bind _ _ (dk_get h), hb]; all_goals rfl)
theorem dk_1_87 : dk_O1 87 (.pop) := fun c p b l h hb => dk_dec (n := 1) (by unfold Jvm.ClassFile.Decoder.instr; rw [dk_bind _ _ (dk_get h), hb]; all_goals rfl)
theorem dk_1_88 : dk_O1 88 (.pop2) := fun c p b l h hb => dk_dec (n := 1) (by unfold Jvm.ClassFile.Decoder.instr; rw [dk_bind _ _ (dk_get h), hb]; all_goals rfl)
theorem dk_1_89 : dk_O1 89 (.dup) := fun c p b l h hb => dk_dec (n := 1) (by unfold Jvm.ClassFile.Decoder.instr; rw [dk_bind _ _ (dk_get h), hb]; all_goals rfl)
theorem dk_1_90 : dk_O1 90 (.dup_x1) := fun c p b l h hb => dk_dec (n := 1) (by unfold Jvm.ClassFile.Decoder.instr; rw [dk_bind _ _ (dk_get h), hb]; all_goals rfl)
theorem dk_1_92 : dk_O1 92 (.dup2) := fun c p b l h hb => dk_dec (n := 1) (by unfold Jvm.ClassFile.Decoder.instr; rw [dk_bind _ _ (dk_get h), hb]; all_goals rfl)
theorem dk_1_96 : dk_O1 96 (.iadd) := fun c p b l h hb => dk_dec (n := 1) (by unfold Jvm.ClassFile.Decoder.instr; rw [dk_bind _ _ (dk_get h), hb]; all_goals rfl)
theorem dk_1_97 : dk_O1 97 (.ladd) := fun c p b l h hb => dk_dec (n := 1) (by unfold Jvm.ClassFile.Decoder.instr; rw [dk_bind _ _ (dk_get h), hb]; all_goals rfl)
theorem dk_1_100 : dk_O1 100 (.isub) := fun c p b l h hb => dk_dec (n := 1) (by unfold Jvm.ClassFile.Decoder.instr; rw [dk_bind _ _ (dk_get h), hb]; all_goals rfl)
theorem dk_1_104 : dk_O1 104 (.imul) := fun c p b l h hb => dk_dec (n := 1) (by unfold Jvm.ClassFile.Decoder.instr; rw [dk_bind _ _ (dk_get h), hb]; all_goals rfl)
theorem dk_1_105 : dk_O1 105 (.lmul) := fun c p b l h hb => dk_dec (n := 1) (by unfold Jvm.ClassFile.Decoder.instr; rw [dk_bind _ _ (dk_get h), hb]; all_goals rfl)
theorem dk_1_108 : dk_O1 108 (.idiv) := fun c p b l h hb => dk_dec (n := 1) (by unfold Jvm.ClassFile.Decoder.instr; rw [dk_bind _ _ (dk_get h), hb]; all_goals rfl)
theorem dk_1_112 : dk_O1 112 (.irem) := fun c p b l h hb => dk_dec (n := 1) (by unfold Jvm.ClassFile.Decoder.instr; rw [dk_bind _ _ (dk_get h), hb]; all_goals rfl)
theorem dk_1_116 : dk_O1 116 (.ineg) := fun c p b l h hb => dk_dec (n := 1) (by unfold Jvm.ClassFile.Decoder.instr; rw [dk_bind _ _ (dk_get h), hb]; all_goals rfl)
theorem dk_1_120 : dk_O1 120 (.ishl) := fun c p b l h hb => dk_dec (n := 1) (by unfold Jvm.ClassFile.Decoder.instr; rw [dk_bind _ _ (dk_get h), hb]; all_goals rfl)
theorem dk_1_122 : dk_O1 122 (.ishr) := fun c p b l h hb => dk_dec (n := 1) (by unfold Jvm.ClassFile.Decoder.instr; rw [dk_bind _ _ (dk_get h), hb]; all_goals rfl)
theorem dk_1_124 : dk_O1 124 (.iushr) := fun c p b l h hb => dk_dec (n := 1) (by unfold Jvm.ClassFile.Decoder.instr; rw [dk_bind _ _ (dk_get h), hb]; all_goals rfl)
theorem dk_1_126 : dk_O1 126 (.iand) := fun c p b l h hb => dk_dec (n := 1) (by unfold Jvm.ClassFile.Decoder.instr; rw [dk_bind _ _ (dk_get h), hb]; all_goals rfl)
theorem dk_1_128 : dk_O1 128 (.ior) := fun c p b l h hb => dk_dec (n := 1) (by unfold Jvm.ClassFile.Decoder.instr; rw [dk_bind _ _ (dk_get h), hb]; all_goals rfl)
theorem dk_1_130 : dk_O1 130 (.ixor) := fun c p b l h hb => dk_dec (n := 1) (by unfold Jvm.ClassFile.Decoder.instr; rw [dk_bind _ _ (dk_get h), hb]; all_goals rfl)
theorem dk_1_133 : dk_O1 133 (.i2l) := fun c p b l h hb => dk_dec (n := 1) (by unfold Jvm.ClassFile.Decoder.instr; rw [dk_bind _ _ (dk_get h), hb]; all_goals rfl)
theorem dk_1_145 : dk_O1 145 (.i2b) := fun c p b l h hb => dk_dec (n := 1) (by unfold Jvm.ClassFile.Decoder.instr; rw [dk_bind _ _ (dk_get h), hb]; all_goals rfl)
theorem dk_1_146 : dk_O1 146 (.i2c) := fun c p b l h hb => dk_dec (n := 1) (by unfold Jvm.ClassFile.Decoder.instr; rw [dk_bind _ _ (dk_get h), hb]; all_goals rfl)
theorem dk_1_148 : dk_O1 148 (.lcmp) := fun c p b l h hb => dk_dec (n := 1) (by unfold Jvm.ClassFile.Decoder.instr; rw [dk_bind _ _ (dk_get h), hb]; all_goals rfl)
theorem dk_1_172 : dk_O1 172 (.ireturn) := fun c p b l h hb => dk_dec (n := 1) (by unfold Jvm.ClassFile.Decoder.instr; rw [dk_bind _ _ (dk_get h), hb]; all_goals rfl)
theorem dk_1_173 : dk_O1 173 (.lreturn) := fun c p b l h hb => dk_dec (n := 1) (by unfold Jvm.ClassFile.Decoder.instr; rw [dk_bind _ _ (dk_get h), hb]; all_goals rfl)
theorem dk_1_176 : dk_O1 176 (.areturn) := fun c p b l h hb => dk_dec (n := 1) (by unfold Jvm.ClassFile.Decoder.instr; rw [dk_bind _ _ (dk_get h), hb]; all_goals rfl)
theorem dk_1_177 : dk_O1 177 (.return_) := fun c p b l h hb => dk_dec (n := 1) (by unfold Jvm.ClassFile.Decoder.instr; rw [dk_bind _ _ (dk_get h), hb]; all_goals rfl)
theorem dk_1_190 : dk_O1 190 (.arraylength) := fun c p b l h hb => dk_dec (n := 1) (by unfold Jvm.ClassFile.Decoder.instr; rw [dk_bind _ _ (dk_get h), hb]; all_goals rfl)
theorem dk_1_191 : dk_O1 191 (.athrow) := fun c p b l h hb => dk_dec (n := 1) (by unfold Jvm.ClassFile.Decoder.instr; rw [dk_bind _ _ (dk_get h), hb]; all_goals rfl)
theorem dk_2_18 : dk_O2 18 (fun x => .ldc x) := fun c p b b1 l h hb => dk_dec (n := 2) (by unfold Jvm.ClassFile.Decoder.instr; rw [dk_bind _ _ (dk_get h), hb]; all_goals exact (dk_bind _ (fun x => pure (Instr.ldc x)) (dk_get (dk_next h))).trans rfl)
theorem dk_2_21 : dk_O2 21 (fun x => .iload x) := fun c p b b1 l h hb => dk_dec (n := 2) (by unfold Jvm.ClassFile.Decoder.instr; rw [dk_bind _ _ (dk_get h), hb]; all_goals exact (dk_bind _ (fun x => pure (Instr.iload x)) (dk_get (dk_next h))).trans rfl)
theorem dk_2_22 : dk_O2 22 (fun x => .lload x) := fun c p b b1 l h hb => dk_dec (n := 2) (by unfold Jvm.ClassFile.Decoder.instr; rw [dk_bind _ _ (dk_get h), hb]; all_goals exact (dk_bind _ (fun x => pure (Instr.lload x)) (dk_get (dk_next h))).trans rfl)
theorem dk_2_25 : dk_O2 25 (fun x => .aload x) := fun c p b b1 l h hb => dk_dec (n := 2) (by unfold Jvm.ClassFile.Decoder.instr; rw [dk_bind _ _ (dk_get h), hb]; all_goals exact (dk_bind _ (fun x => pure (Instr.aload x)) (dk_get (dk_next h))).trans rfl)
theorem dk_2_54 : dk_O2 54 (fun x => .istore x) := fun c p b b1 l h hb => dk_dec (n := 2) (by unfold Jvm.ClassFile.Decoder.instr; rw [dk_bind _ _ (dk_get h), hb]; all_goals exact (dk_bind _ (fun x => pure (Instr.istore x)) (dk_get (dk_next h))).trans rfl)
theorem dk_2_55 : dk_O2 55 (fun x => .lstore x) := fun c p b b1 l h hb => dk_dec (n := 2) (by unfold Jvm.ClassFile.Decoder.instr; rw [dk_bind _ _ (dk_get h), hb]; all_goals exact (dk_bind _ (fun x => pure (Instr.lstore x)) (dk_get (dk_next h))).trans rfl)
theorem dk_2_58 : dk_O2 58 (fun x => .astore x) := fun c p b b1 l h hb => dk_dec (n := 2) (by unfold Jvm.ClassFile.Decoder.instr; rw [dk_bind _ _ (dk_get h), hb]; all_goals exact (dk_bind _ (fun x => pure (Instr.astore x)) (dk_get (dk_next h))).trans rfl)
theorem dk_2_16 : dk_O2 16 (fun x => .bipush (Jvm.ClassFile.Reader.signed 8 x)) := fun c p b b1 l h hb => dk_dec (n := 2) (by unfold Jvm.ClassFile.Decoder.instr; rw [dk_bind _ _ (dk_get h), hb]; all_goals exact (dk_bind Jvm.ClassFile.Reader.s1 (fun x => pure (Instr.bipush x)) (dk_map _ (Jvm.ClassFile.Reader.signed 8) (dk_get (dk_next h)))).trans rfl)
theorem dk_3_19 : dk_O3 19 (fun x y => .ldc_w (x * 256 + y)) := fun c p b b1 b2 l h hb => dk_dec (n := 3) (by unfold Jvm.ClassFile.Decoder.instr; rw [dk_bind _ _ (dk_get h), hb]; all_goals exact (dk_bind Jvm.ClassFile.Reader.u2 (fun x => pure (Instr.ldc_w x)) (dk_u2 (dk_next h))).trans rfl)
theorem dk_3_20 : dk_O3 20 (fun x y => .ldc2_w (x * 256 + y)) := fun c p b b1 b2 l h hb => dk_dec (n := 3) (by unfold Jvm.ClassFile.Decoder.instr; rw [dk_bind _ _ (dk_get h), hb]; all_goals exact (dk_bind Jvm.ClassFile.Reader.u2 (fun x => pure (Instr.ldc2_w x)) (dk_u2 (dk_next h))).trans rfl)
theorem dk_3_178 : dk_O3 178 (fun x y => .getstatic (x * 256 + y)) := fun c p b b1 b2 l h hb => dk_dec (n := 3) (by unfold Jvm.ClassFile.Decoder.instr; rw [dk_bind _ _ (dk_get h), hb]; all_goals exact (dk_bind Jvm.ClassFile.Reader.u2 (fun x => pure (Instr.getstatic x)) (dk_u2 (dk_next h))).trans rfl)
theorem dk_3_179 : dk_O3 179 (fun x y => .putstatic (x * 256 + y)) := fun c p b b1 b2 l h hb => dk_dec (n := 3) (by unfold Jvm.ClassFile.Decoder.instr; rw [dk_bind _ _ (dk_get h), hb]; all_goals exact (dk_bind Jvm.ClassFile.Reader.u2 (fun x => pure (Instr.putstatic x)) (dk_u2 (dk_next h))).trans rfl)
theorem dk_3_180 : dk_O3 180 (fun x y => .getfield (x * 256 + y)) := fun c p b b1 b2 l h hb => dk_dec (n := 3) (by unfold Jvm.ClassFile.Decoder.instr; rw [dk_bind _ _ (dk_get h), hb]; all_goals exact (dk_bind Jvm.ClassFile.Reader.u2 (fun x => pure (Instr.getfield x)) (dk_u2 (dk_next h))).trans rfl)
theorem dk_3_181 : dk_O3 181 (fun x y => .putfield (x * 256 + y)) := fun c p b b1 b2 l h hb => dk_dec (n := 3) (by unfold Jvm.ClassFile.Decoder.instr; rw [dk_bind _ _ (dk_get h), hb]; all_goals exact (dk_bind Jvm.ClassFile.Reader.u2 (fun x => pure (Instr.putfield x)) (dk_u2 (dk_next h))).trans rfl)
theorem dk_3_182 : dk_O3 182 (fun x y => .invokevirtual (x * 256 + y)) := fun c p b b1 b2 l h hb => dk_dec (n := 3) (by unfold Jvm.ClassFile.Decoder.instr; rw [dk_bind _ _ (dk_get h), hb]; all_goals exact (dk_bind Jvm.ClassFile.Reader.u2 (fun x => pure (Instr.invokevirtual x)) (dk_u2 (dk_next h))).trans rfl)
theorem dk_3_183 : dk_O3 183 (fun x y => .invokespecial (x * 256 + y)) := fun c p b b1 b2 l h hb => dk_dec (n := 3) (by unfold Jvm.ClassFile.Decoder.instr; rw [dk_bind _ _ (dk_get h), hb]; all_goals exact (dk_bind Jvm.ClassFile.Reader.u2 (fun x => pure (Instr.invokespecial x)) (dk_u2 (dk_next h))).trans rfl)
theorem dk_3_184 : dk_O3 184 (fun x y => .invokestatic (x * 256 + y)) := fun c p b b1 b2 l h hb => dk_dec (n := 3) (by unfold Jvm.ClassFile.Decoder.instr; rw [dk_bind _ _ (dk_get h), hb]; all_goals exact (dk_bind Jvm.ClassFile.Reader.u2 (fun x => pure (Instr.invokestatic x)) (dk_u2 (dk_next h))).trans rfl)
theorem dk_3_187 : dk_O3 187 (fun x y => .new (x * 256 + y)) := fun c p b b1 b2 l h hb => dk_dec (n := 3) (by unfold Jvm.ClassFile.Decoder.instr; rw [dk_bind _ _ (dk_get h), hb]; all_goals exact (dk_bind Jvm.ClassFile.Reader.u2 (fun x => pure (Instr.new x)) (dk_u2 (dk_next h))).trans rfl)
theorem dk_3_189 : dk_O3 189 (fun x y => .anewarray (x * 256 + y)) := fun c p b b1 b2 l h hb => dk_dec (n := 3) (by unfold Jvm.ClassFile.Decoder.instr; rw [dk_bind _ _ (dk_get h), hb]; all_goals exact (dk_bind Jvm.ClassFile.Reader.u2 (fun x => pure (Instr.anewarray x)) (dk_u2 (dk_next h))).trans rfl)
theorem dk_3_192 : dk_O3 192 (fun x y => .checkcast (x * 256 + y)) := fun c p b b1 b2 l h hb => dk_dec (n := 3) (by unfold Jvm.ClassFile.Decoder.instr; rw [dk_bind _ _ (dk_get h), hb]; all_goals exact (dk_bind Jvm.ClassFile.Reader.u2 (fun x => pure (Instr.checkcast x)) (dk_u2 (dk_next h))).trans rfl)
theorem dk_3_193 : dk_O3 193 (fun x y => .instanceof (x * 256 + y)) := fun c p b b1 b2 l h hb => dk_dec (n := 3) (by unfold Jvm.ClassFile.Decoder.instr; rw [dk_bind _ _ (dk_get h), hb]; all_goals exact (dk_bind Jvm.ClassFile.Reader.u2 (fun x => pure (Instr.instanceof x)) (dk_u2 (dk_next h))).trans rfl)
theorem dk_3_17 : dk_O3 17 (fun x y => .sipush (Jvm.ClassFile.Reader.signed 16 (x * 256 + y))) := fun c p b b1 b2 l h hb => dk_dec (n := 3) (by unfold Jvm.ClassFile.Decoder.instr; rw [dk_bind _ _ (dk_get h), hb]; all_goals exact (dk_bind Jvm.ClassFile.Reader.s2 (fun x => pure (Instr.sipush x)) (dk_map _ (Jvm.ClassFile.Reader.signed 16) (dk_u2 (dk_next h)))).trans rfl)
theorem dk_3_167 : dk_O3 167 (fun x y => .goto (Jvm.ClassFile.Reader.signed 16 (x * 256 + y))) := fun c p b b1 b2 l h hb => dk_dec (n := 3) (by unfold Jvm.ClassFile.Decoder.instr; rw [dk_bind _ _ (dk_get h), hb]; all_goals exact (dk_bind Jvm.ClassFile.Reader.s2 (fun x => pure (Instr.goto x)) (dk_map _ (Jvm.ClassFile.Reader.signed 16) (dk_u2 (dk_next h)))).trans rfl)
theorem dk_3_198 : dk_O3 198 (fun x y => .ifnull (Jvm.ClassFile.Reader.signed 16 (x * 256 + y))) := fun c p b b1 b2 l h hb => dk_dec (n := 3) (by unfold Jvm.ClassFile.Decoder.instr; rw [dk_bind _ _ (dk_get h), hb]; all_goals exact (dk_bind Jvm.ClassFile.Reader.s2 (fun x => pure (Instr.ifnull x)) (dk_map _ (Jvm.ClassFile.Reader.signed 16) (dk_u2 (dk_next h)))).trans rfl)
theorem dk_3_199 : dk_O3 199 (fun x y => .ifnonnull (Jvm.ClassFile.Reader.signed 16 (x * 256 + y))) := fun c p b b1 b2 l h hb => dk_dec (n := 3) (by unfold Jvm.ClassFile.Decoder.instr; rw [dk_bind _ _ (dk_get h), hb]; all_goals exact (dk_bind Jvm.ClassFile.Reader.s2 (fun x => pure (Instr.ifnonnull x)) (dk_map _ (Jvm.ClassFile.Reader.signed 16) (dk_u2 (dk_next h)))).trans rfl)
theorem dk_3_153 : dk_O3 153 (fun x y => .ifCond .eq (Jvm.ClassFile.Reader.signed 16 (x * 256 + y))) := fun c p b b1 b2 l h hb => dk_dec (n := 3) (by unfold Jvm.ClassFile.Decoder.instr; rw [dk_bind _ _ (dk_get h), hb]; all_goals exact (dk_bind Jvm.ClassFile.Reader.s2 (fun x => pure (Instr.ifCond .eq x)) (dk_map _ (Jvm.ClassFile.Reader.signed 16) (dk_u2 (dk_next h)))).trans rfl)
theorem dk_3_159 : dk_O3 159 (fun x y => .if_icmp .eq (Jvm.ClassFile.Reader.signed 16 (x * 256 + y))) := fun c p b b1 b2 l h hb => dk_dec (n := 3) (by unfold Jvm.ClassFile.Decoder.instr; rw [dk_bind _ _ (dk_get h), hb]; all_goals exact (dk_bind Jvm.ClassFile.Reader.s2 (fun x => pure (Instr.if_icmp .eq x)) (dk_map _ (Jvm.ClassFile.Reader.signed 16) (dk_u2 (dk_next h)))).trans rfl)
theorem dk_3_154 : dk_O3 154 (fun x y => .ifCond .ne (Jvm.ClassFile.Reader.signed 16 (x * 256 + y))) := fun c p b b1 b2 l h hb => dk_dec (n := 3) (by unfold Jvm.ClassFile.Decoder.instr; rw [dk_bind _ _ (dk_get h), hb]; all_goals exact (dk_bind Jvm.ClassFile.Reader.s2 (fun x => pure (Instr.ifCond .ne x)) (dk_map _ (Jvm.ClassFile.Reader.signed 16) (dk_u2 (dk_next h)))).trans rfl)
theorem dk_3_160 : dk_O3 160 (fun x y => .if_icmp .ne (Jvm.ClassFile.Reader.signed 16 (x * 256 + y))) := fun c p b b1 b2 l h hb => dk_dec (n := 3) (by unfold Jvm.ClassFile.Decoder.instr; rw [dk_bind _ _ (dk_get h), hb]; all_goals exact (dk_bind Jvm.ClassFile.Reader.s2 (fun x => pure (Instr.if_icmp .ne x)) (dk_map _ (Jvm.ClassFile.Reader.signed 16) (dk_u2 (dk_next h)))).trans rfl)
theorem dk_3_155 : dk_O3 155 (fun x y => .ifCond .lt (Jvm.ClassFile.Reader.signed 16 (x * 256 + y))) := fun c p b b1 b2 l h hb => dk_dec (n := 3) (by unfold Jvm.ClassFile.Decoder.instr; rw [dk_bind _ _ (dk_get h), hb]; all_goals exact (dk_bind Jvm.ClassFile.Reader.s2 (fun x => pure (Instr.ifCond .lt x)) (dk_map _ (Jvm.ClassFile.Reader.signed 16) (dk_u2 (dk_next h)))).trans rfl)
theorem dk_3_161 : dk_O3 161 (fun x y => .if_icmp .lt (Jvm.ClassFile.Reader.signed 16 (x * 256 + y))) := fun c p b b1 b2 l h hb => dk_dec (n := 3) (by unfold Jvm.ClassFile.Decoder.instr; rw [dk_bind _ _ (dk_get h), hb]; all_goals exact (dk_bind Jvm.ClassFile.Reader.s2 (fun x => pure (Instr.if_icmp .lt x)) (dk_map _ (Jvm.ClassFile.Reader.signed 16) (dk_u2 (dk_next h)))).trans rfl)
theorem dk_3_156 : dk_O3 156 (fun x y => .ifCond .ge (Jvm.ClassFile.Reader.signed 16 (x * 256 + y))) := fun c p b b1 b2 l h hb => dk_dec (n := 3) (by unfold Jvm.ClassFile.Decoder.instr; rw [dk_bind _ _ (dk_get h), hb]; all_goals exact (dk_bind Jvm.ClassFile.Reader.s2 (fun x => pure (Instr.ifCond .ge x)) (dk_map _ (Jvm.ClassFile.Reader.signed 16) (dk_u2 (dk_next h)))).trans rfl)
theorem dk_3_162 : dk_O3 162 (fun x y => .if_icmp .ge (Jvm.ClassFile.Reader.signed 16 (x * 256 + y))) := fun c p b b1 b2 l h hb => dk_dec (n := 3) (by unfold Jvm.ClassFile.Decoder.instr; rw [dk_bind _ _ (dk_get h), hb]; all_goals exact (dk_bind Jvm.ClassFile.Reader.s2 (fun x => pure (Instr.if_icmp .ge x)) (dk_map _ (Jvm.ClassFile.Reader.signed 16) (dk_u2 (dk_next h)))).trans rfl)
theorem dk_3_157 : dk_O3 157 (fun x y => .ifCond .gt (Jvm.ClassFile.Reader.signed 16 (x * 256 + y))) := fun c p b b1 b2 l h hb => dk_dec (n := 3) (by unfold Jvm.ClassFile.Decoder.instr; rw [dk_bind _ _ (dk_get h), hb]; all_goals exact (dk_bind Jvm.ClassFile.Reader.s2 (fun x => pure (Instr.ifCond .gt x)) (dk_map _ (Jvm.ClassFile.Reader.signed 16) (dk_u2 (dk_next h)))).trans rfl)
theorem dk_3_163 : dk_O3 163 (fun x y => .if_icmp .gt (Jvm.ClassFile.Reader.signed 16 (x * 256 + y))) := fun c p b b1 b2 l h hb => dk_dec (n := 3) (by unfold Jvm.ClassFile.Decoder.instr; rw [dk_bind _ _ (dk_get h), hb]; all_goals exact (dk_bind Jvm.ClassFile.Reader.s2 (fun x => pure (Instr.if_icmp .gt x)) (dk_map _ (Jvm.ClassFile.Reader.signed 16) (dk_u2 (dk_next h)))).trans rfl)
theorem dk_3_158 : dk_O3 158 (fun x y => .ifCond .le (Jvm.ClassFile.Reader.signed 16 (x * 256 + y))) := fun c p b b1 b2 l h hb => dk_dec (n := 3) (by unfold Jvm.ClassFile.Decoder.instr; rw [dk_bind _ _ (dk_get h), hb]; all_goals exact (dk_bind Jvm.ClassFile.Reader.s2 (fun x => pure (Instr.ifCond .le x)) (dk_map _ (Jvm.ClassFile.Reader.signed 16) (dk_u2 (dk_next h)))).trans rfl)
theorem dk_3_164 : dk_O3 164 (fun x y => .if_icmp .le (Jvm.ClassFile.Reader.signed 16 (x * 256 + y))) := fun c p b b1 b2 l h hb => dk_dec (n := 3) (by unfold Jvm.ClassFile.Decoder.instr; rw [dk_bind _ _ (dk_get h), hb]; all_goals exact (dk_bind Jvm.ClassFile.Reader.s2 (fun x => pure (Instr.if_icmp .le x)) (dk_map _ (Jvm.ClassFile.Reader.signed 16) (dk_u2 (dk_next h)))).trans rfl)
theorem dk_3_132 : dk_O3 132 (fun x y => .iinc x (Jvm.ClassFile.Reader.signed 8 y)) := fun c p b b1 b2 l h hb => dk_dec (n := 3) (by unfold Jvm.ClassFile.Decoder.instr; rw [dk_bind _ _ (dk_get h), hb]; all_goals exact ((dk_bind _ (fun x => (Jvm.ClassFile.Reader.s1 : Jvm.ClassFile.Decoder Int) >>= fun y => pure (Instr.iinc x y)) (dk_get (dk_next h))).trans (dk_bind Jvm.ClassFile.Reader.s1 (fun y => pure (Instr.iinc b1.toNat y)) (dk_map _ (Jvm.ClassFile.Reader.signed 8) (dk_get (dk_next (dk_next h)))))).trans rfl)
def dk_t1 : List (Nat × (Instr)) := [(43, .aload_n 1), (42, .aload_n 0), (44, .aload_n 2), (45, .aload_n 3), (4, .iconst (1)), (3, .iconst (0)), (27, .iload_n 1), (28, .iload_n 2), (29, .iload_n 3), (26, .iload_n 0), (172, .ireturn), (96, .iadd), (46, .iaload), (89, .dup), (100, .isub), (1, .aconst_null), (2, .iconst (-1)), (5, .iconst (2)), (6, .iconst (3)), (7, .iconst (4)), (8, .iconst (5)), (9, .lconst 0), (10, .lconst 1), (30, .lload_n 0), (31, .lload_n 1), (32, .lload_n 2), (33, .lload_n 3), (50, .aaload), (51, .baload), (59, .istore_n 0), (60, .istore_n 1), (61, .istore_n 2), (62, .istore_n 3), (63, .lstore_n 0), (64, .lstore_n 1), (65, .lstore_n 2), (66, .lstore_n 3), (75, .astore_n 0), (76, .astore_n 1), (77, .astore_n 2), (78, .astore_n 3), (79, .iastore), (83, .aastore), (84, .bastore), (87, .pop), (88, .pop2), (90, .dup_x1), (92, .dup2), (97, .ladd), (104, .imul), (105, .lmul), (108, .idiv), (112, .irem), (116, .ineg), (120, .ishl), (122, .ishr), (124, .iushr), (126, .iand), (128, .ior), (130, .ixor), (133, .i2l), (145, .i2b), (146, .i2c), (148, .lcmp), (173, .lreturn), (176, .areturn), (177, .return_), (190, .arraylength), (191, .athrow)]
theorem dk_t1_ok : ∀ x ∈ dk_t1, dk_O1 x.1 x.2 := List.forall_mem_cons.mpr ⟨dk_1_43, List.forall_mem_cons.mpr ⟨dk_1_42, List.forall_mem_cons.mpr ⟨dk_1_44, List.forall_mem_cons.mpr ⟨dk_1_45, List.forall_mem_cons.mpr ⟨dk_1_4, List.forall_mem_cons.mpr ⟨dk_1_3, List.forall_mem_cons.mpr ⟨dk_1_27, List.forall_mem_cons.mpr ⟨dk_1_28, List.forall_mem_cons.mpr ⟨dk_1_29, List.forall_mem_cons.mpr ⟨dk_1_26, List.forall_mem_cons.mpr ⟨dk_1_172, List.forall_mem_cons.mpr ⟨dk_1_96, List.forall_mem_cons.mpr ⟨dk_1_46, List.forall_mem_cons.mpr ⟨dk_1_89, List.forall_mem_cons.mpr ⟨dk_1_100, List.forall_mem_cons.mpr ⟨dk_1_1, List.forall_mem_cons.mpr ⟨dk_1_2, List.forall_mem_cons.mpr ⟨dk_1_5, List.forall_mem_cons.mpr ⟨dk_1_6, List.forall_mem_cons.mpr ⟨dk_1_7, List.forall_mem_cons.mpr ⟨dk_1_8, List.forall_mem_cons.mpr ⟨dk_1_9, List.forall_mem_cons.mpr ⟨dk_1_10, List.forall_mem_cons.mpr ⟨dk_1_30, List.forall_mem_cons.mpr ⟨dk_1_31, List.forall_mem_cons.mpr ⟨dk_1_32, List.forall_mem_cons.mpr ⟨dk_1_33, List.forall_mem_cons.mpr ⟨dk_1_50, List.forall_mem_cons.mpr ⟨dk_1_51, List.forall_mem_cons.mpr ⟨dk_1_59, List.forall_mem_cons.mpr ⟨dk_1_60, List.forall_mem_cons.mpr ⟨dk_1_61, List.forall_mem_cons.mpr ⟨dk_1_62, List.forall_mem_cons.mpr ⟨dk_1_63, List.forall_mem_cons.mpr ⟨dk_1_64, List.forall_mem_cons.mpr ⟨dk_1_65, List.forall_mem_cons.mpr ⟨dk_1_66, List.forall_mem_cons.mpr ⟨dk_1_75, List.forall_mem_cons.mpr ⟨dk_1_76, List.forall_mem_cons.mpr ⟨dk_1_77, List.forall_mem_cons.mpr ⟨dk_1_78, List.forall_mem_cons.mpr ⟨dk_1_79, List.forall_mem_cons.mpr ⟨dk_1_83, List.forall_mem_cons.mpr ⟨dk_1_84, List.forall_mem_cons.mpr ⟨dk_1_87, List.forall_mem_cons.mpr ⟨dk_1_88, List.forall_mem_cons.mpr ⟨dk_1_90, List.forall_mem_cons.mpr ⟨dk_1_92, List.forall_mem_cons.mpr ⟨dk_1_97, List.forall_mem_cons.mpr ⟨dk_1_104, List.forall_mem_cons.mpr ⟨dk_1_105, List.forall_mem_cons.mpr ⟨dk_1_108, List.forall_mem_cons.mpr ⟨dk_1_112, List.forall_mem_cons.mpr ⟨dk_1_116, List.forall_mem_cons.mpr ⟨dk_1_120, List.forall_mem_cons.mpr ⟨dk_1_122, List.forall_mem_cons.mpr ⟨dk_1_124, List.forall_mem_cons.mpr ⟨dk_1_126, List.forall_mem_cons.mpr ⟨dk_1_128, List.forall_mem_cons.mpr ⟨dk_1_130, List.forall_mem_cons.mpr ⟨dk_1_133, List.forall_mem_cons.mpr ⟨dk_1_145, List.forall_mem_cons.mpr ⟨dk_1_146, List.forall_mem_cons.mpr ⟨dk_1_148, List.forall_mem_cons.mpr ⟨dk_1_173, List.forall_mem_cons.mpr ⟨dk_1_176, List.forall_mem_cons.mpr ⟨dk_1_177, List.forall_mem_cons.mpr ⟨dk_1_190, List.forall_mem_cons.mpr ⟨dk_1_191, List.forall_mem_nil _⟩⟩⟩⟩⟩⟩⟩⟩⟩⟩⟩⟩⟩⟩⟩⟩⟩⟩⟩⟩⟩⟩⟩⟩⟩⟩⟩⟩⟩⟩⟩⟩⟩⟩⟩⟩⟩⟩⟩⟩⟩⟩⟩⟩⟩⟩⟩⟩⟩⟩⟩⟩⟩⟩⟩⟩⟩⟩⟩⟩⟩⟩⟩⟩⟩⟩⟩⟩⟩
def dk_t2 : List (Nat × (Nat → Instr)) := [(21, fun x => .iload x), (54, fun x => .istore x), (16, fun x => .bipush (Jvm.ClassFile.Reader.signed 8 x)), (18, fun x => .ldc x), (22, fun x => .lload x), (25, fun x => .aload x), (55, fun x => .lstore x), (58, fun x => .astore x)]
theorem dk_t2_ok : ∀ x ∈ dk_t2, dk_O2 x.1 x.2 := List.forall_mem_cons.mpr ⟨dk_2_21, List.forall_mem_cons.mpr ⟨dk_2_54, List.forall_mem_cons.mpr ⟨dk_2_16, List.forall_mem_cons.mpr ⟨dk_2_18, List.forall_mem_cons.mpr ⟨dk_2_22, List.forall_mem_cons.mpr ⟨dk_2_25, List.forall_mem_cons.mpr ⟨dk_2_55, List.forall_mem_cons.mpr ⟨dk_2_58, List.forall_mem_nil _⟩⟩⟩⟩⟩⟩⟩⟩
def dk_t3 : List (Nat × (Nat → Nat → Instr)) := [(180, fun x y => .getfield (x * 256 + y)), (182, fun x y => .invokevirtual (x * 256 + y)), (167, fun x y => .goto (Jvm.ClassFile.Reader.signed 16 (x * 256 + y))), (184, fun x y => .invokestatic (x * 256 + y)), (181, fun x y => .putfield (x * 256 + y)), (132, fun x y => .iinc x (Jvm.ClassFile.Reader.signed 8 y)), (17, fun x y => .sipush (Jvm.ClassFile.Reader.signed 16 (x * 256 + y))), (19, fun x y => .ldc_w (x * 256 + y)), (20, fun x y => .ldc2_w (x * 256 + y)), (153, fun x y => .ifCond .eq (Jvm.ClassFile.Reader.signed 16 (x * 256 + y))), (154, fun x y => .ifCond .ne (Jvm.ClassFile.Reader.signed 16 (x * 256 + y))), (155, fun x y => .ifCond .lt (Jvm.ClassFile.Reader.signed 16 (x * 256 + y))), (156, fun x y => .ifCond .ge (Jvm.ClassFile.Reader.signed 16 (x * 256 + y))), (157, fun x y => .ifCond .gt (Jvm.ClassFile.Reader.signed 16 (x * 256 + y))), (158, fun x y => .ifCond .le (Jvm.ClassFile.Reader.signed 16 (x * 256 + y))), (159, fun x y => .if_icmp .eq (Jvm.ClassFile.Reader.signed 16 (x * 256 + y))), (160, fun x y => .if_icmp .ne (Jvm.ClassFile.Reader.signed 16 (x * 256 + y))), (161, fun x y => .if_icmp .lt (Jvm.ClassFile.Reader.signed 16 (x * 256 + y))), (162, fun x y => .if_icmp .ge (Jvm.ClassFile.Reader.signed 16 (x * 256 + y))), (163, fun x y => .if_icmp .gt (Jvm.ClassFile.Reader.signed 16 (x * 256 + y))), (164, fun x y => .if_icmp .le (Jvm.ClassFile.Reader.signed 16 (x * 256 + y))), (178, fun x y => .getstatic (x * 256 + y)), (179, fun x y => .putstatic (x * 256 + y)), (183, fun x y => .invokespecial (x * 256 + y)), (187, fun x y => .new (x * 256 + y)), (189, fun x y => .anewarray (x * 256 + y)), (192, fun x y => .checkcast (x * 256 + y)), (193, fun x y => .instanceof (x * 256 + y)), (198, fun x y => .ifnull (Jvm.ClassFile.Reader.signed 16 (x * 256 + y))), (199, fun x y => .ifnonnull (Jvm.ClassFile.Reader.signed 16 (x * 256 + y)))]
theorem dk_t3_ok : ∀ x ∈ dk_t3, dk_O3 x.1 x.2 := List.forall_mem_cons.mpr ⟨dk_3_180, List.forall_mem_cons.mpr ⟨dk_3_182, List.forall_mem_cons.mpr ⟨dk_3_167, List.forall_mem_cons.mpr ⟨dk_3_184, List.forall_mem_cons.mpr ⟨dk_3_181, List.forall_mem_cons.mpr ⟨dk_3_132, List.forall_mem_cons.mpr ⟨dk_3_17, List.forall_mem_cons.mpr ⟨dk_3_19, List.forall_mem_cons.mpr ⟨dk_3_20, List.forall_mem_cons.mpr ⟨dk_3_153, List.forall_mem_cons.mpr ⟨dk_3_154, List.forall_mem_cons.mpr ⟨dk_3_155, List.forall_mem_cons.mpr ⟨dk_3_156, List.forall_mem_cons.mpr ⟨dk_3_157, List.forall_mem_cons.mpr ⟨dk_3_158, List.forall_mem_cons.mpr ⟨dk_3_159, List.forall_mem_cons.mpr ⟨dk_3_160, List.forall_mem_cons.mpr ⟨dk_3_161, List.forall_mem_cons.mpr ⟨dk_3_162, List.forall_mem_cons.mpr ⟨dk_3_163, List.forall_mem_cons.mpr ⟨dk_3_164, List.forall_mem_cons.mpr ⟨dk_3_178, List.forall_mem_cons.mpr ⟨dk_3_179, List.forall_mem_cons.mpr ⟨dk_3_183, List.forall_mem_cons.mpr ⟨dk_3_187, List.forall_mem_cons.mpr ⟨dk_3_189, List.forall_mem_cons.mpr ⟨dk_3_192, List.forall_mem_cons.mpr ⟨dk_3_193, List.forall_mem_cons.mpr ⟨dk_3_198, List.forall_mem_cons.mpr ⟨dk_3_199, List.forall_mem_nil _⟩⟩⟩⟩⟩⟩⟩⟩⟩⟩⟩⟩⟩⟩⟩⟩⟩⟩⟩⟩⟩⟩⟩⟩⟩⟩⟩⟩⟩⟩
def dk_b1 (b : UInt8) (i : Instr) : Bool := dk_t1.any fun x => x.1 == b.toNat && decide (x.2 = i)
def dk_b2 (b b1 : UInt8) (i : Instr) : Bool := dk_t2.any fun x => x.1 == b.toNat && decide (x.2 b1.toNat = i)
def dk_b3 (b b1 b2 : UInt8) (i : Instr) : Bool := dk_t3.any fun x => x.1 == b.toNat && decide (x.2 b1.toNat b2.toNat = i)
theorem dk_b1_ok {c : ByteArray} {p : Nat} {b : UInt8} {l : List UInt8} {i : Instr} (h : dk_S c p = b :: l) (hd : dk_b1 b i = true) : decode c p = .ok (i, 1) := by
  obtain ⟨x, hx, hy⟩ := List.any_eq_true.mp hd
  have hy : (x.1 == b.toNat && decide (x.2 = i)) = true := hy
  rw [Bool.and_eq_true] at hy
  obtain ⟨h1, h2⟩ := hy
  have h3 := of_decide_eq_true h2
  subst h3
  exact dk_t1_ok x hx c p b l h (beq_iff_eq.mp h1).symm
theorem dk_b2_ok {c : ByteArray} {p : Nat} {b b1 : UInt8} {l : List UInt8} {i : Instr} (h : dk_S c p = b :: b1 :: l) (hd : dk_b2 b b1 i = true) : decode c p = .ok (i, 2) := by
  obtain ⟨x, hx, hy⟩ := List.any_eq_true.mp hd
  have hy : (x.1 == b.toNat && decide (x.2 b1.toNat = i)) = true := hy
  rw [Bool.and_eq_true] at hy
  obtain ⟨h1, h2⟩ := hy
  have h3 := of_decide_eq_true h2
  subst h3
  exact dk_t2_ok x hx c p b b1 l h (beq_iff_eq.mp h1).symm
theorem dk_b3_ok {c : ByteArray} {p : Nat} {b b1 b2 : UInt8} {l : List UInt8} {i : Instr} (h : dk_S c p = b :: b1 :: b2 :: l) (hd : dk_b3 b b1 b2 i = true) : decode c p = .ok (i, 3) := by
  obtain ⟨x, hx, hy⟩ := List.any_eq_true.mp hd
  have hy : (x.1 == b.toNat && decide (x.2 b1.toNat b2.toNat = i)) = true := hy
  rw [Bool.and_eq_true] at hy
  obtain ⟨h1, h2⟩ := hy
  have h3 := of_decide_eq_true h2
  subst h3
  exact dk_t3_ok x hx c p b b1 b2 l h (beq_iff_eq.mp h1).symm
def dk_q1 (l : List UInt8) (i : Instr) : Bool := match l with | b :: _ => dk_b1 b i | [] => false
def dk_q2 (l : List UInt8) (i : Instr) : Bool := match l with | b :: b1 :: _ => dk_b2 b b1 i | _ => false
def dk_q3 (l : List UInt8) (i : Instr) : Bool := match l with | b :: b1 :: b2 :: _ => dk_b3 b b1 b2 i | _ => false
def dk_q (l : List UInt8) (i : Instr) (n : Nat) : Bool := bif n == 1 then dk_q1 l i else bif n == 2 then dk_q2 l i else bif n == 3 then dk_q3 l i else false
theorem dk_q_ok {c : ByteArray} {p : Nat} {l : List UInt8} {i : Instr} {n : Nat} (h : dk_S c p = l) (hd : dk_q l i n = true) : decode c p = .ok (i, n) := by
  unfold dk_q at hd
  by_cases h1 : n = 1
  · subst h1
    match l, h, hd with
    | b :: _, h, hd => exact dk_b1_ok h hd
    | [], _, hd => exact absurd hd Bool.false_ne_true
  · have e1 : (n == 1) = false := beq_eq_false_iff_ne.mpr h1
    rw [e1, cond_false] at hd
    by_cases h2 : n = 2
    · subst h2
      match l, h, hd with
      | b :: b1 :: _, h, hd => exact dk_b2_ok h hd
      | [_], _, hd => exact absurd hd Bool.false_ne_true
      | [], _, hd => exact absurd hd Bool.false_ne_true
    · have e2 : (n == 2) = false := beq_eq_false_iff_ne.mpr h2
      rw [e2, cond_false] at hd
      by_cases h3 : n = 3
      · subst h3
        match l, h, hd with
        | b :: b1 :: b2 :: _, h, hd => exact dk_b3_ok h hd
        | [_, _], _, hd => exact absurd hd Bool.false_ne_true
        | [_], _, hd => exact absurd hd Bool.false_ne_true
        | [], _, hd => exact absurd hd Bool.false_ne_true
      · have e3 : (n == 3) = false := beq_eq_false_iff_ne.mpr h3
        rw [e3, cond_false] at hd
        exact absurd hd Bool.false_ne_true
/-- rows in the order of their places: each is what the bytes say -/
def dk_ck : List (Nat × Instr × Nat) → List UInt8 → Nat → Bool
  | [], _, _ => true
  | (q, i, n) :: t, l, p => Nat.ble p q && (dk_q (l.drop (q - p)) i n && dk_ck t (l.drop (q - p)) q)
def dk_R (c : ByteArray) : List (Nat × Instr × Nat) → Prop
  | [] => True
  | (q, i, n) :: t => decode c q = .ok (i, n) ∧ dk_R c t
theorem dk_ok {c : ByteArray} : ∀ (rows : List (Nat × Instr × Nat)) (l : List UInt8) (p : Nat), dk_S c p = l → dk_ck rows l p = true → dk_R c rows
  | [], _, _, _, _ => trivial
  | (q, i, n) :: t, l, p, hl, h => by
    unfold dk_ck at h
    rw [Bool.and_eq_true, Bool.and_eq_true] at h
    obtain ⟨h1, h2, h3⟩ := h
    have hle := Nat.le_of_ble_eq_true h1
    have hq : dk_S c q = l.drop (q - p) := by
      rw [← hl]; unfold dk_S
      rw [List.drop_drop, Nat.add_sub_cancel' hle]
    exact ⟨dk_q_ok hq h2, dk_ok t _ _ hq h3⟩
theorem dk_use (c : ByteArray) (rows : List (Nat × Instr × Nat)) (h : dk_ck rows c.data.toList 0 = true) : dk_R c rows := dk_ok rows _ 0 rfl h
