theorem u_1596 : Cond.constantLong RX9 283 (31) ∈ yU := yu_tables_1_7 100 (by decide +kernel) (by decide +kernel)
theorem u_1595 : Cond.code yX9_add cX9_add 4 (some .long) ∈ yU := yu_tables_1_7 99 (by decide +kernel) (by decide +kernel)
theorem u_1592 : Cond.constantLong RX9 285 (5659) ∈ yU := yu_tables_1_7 96 (by decide +kernel) (by decide +kernel)
theorem u_1593 : Cond.methodLink RX9 287 yX9_add ∈ yU := yu_tables_1_7 97 (by decide +kernel) (by decide +kernel)
theorem u_1594 : Cond.static yX9_add ∈ yU := yu_tables_1_7 98 (by decide +kernel) (by decide +kernel)
theorem u_1591 : Cond.code yX9_digest cX9_digest 11 (some .long) ∈ yU := yu_tables_1_7 95 (by decide +kernel) (by decide +kernel)
theorem u_1193 : Cond.methodLink RX9 7 objectInit ∈ yU := yu_tables_1_5 177 (by decide +kernel) (by decide +kernel)
theorem u_1194 : Cond.classLink RX9 13 RX8 ∈ yU := yu_tables_1_5 178 (by decide +kernel) (by decide +kernel)
theorem u_1289 : Cond.arrayClass .boolean ∈ yU := yu_tables_1_6 33 (by decide +kernel) (by decide +kernel)
theorem u_1229 : Cond.classLink RX9 22 "[[Z" ∈ yU := yu_tables_1_5 213 (by decide +kernel) (by decide +kernel)
theorem u_1192 : Cond.code yX9_init cX9_init 1 none ∈ yU := yu_tables_1_5 176 (by decide +kernel) (by decide +kernel)
theorem u_555 : Cond.methodLink RX7 1 objectInit ∈ yU := yu_tables_1_3 19 (by decide +kernel) (by decide +kernel)
theorem u_554 : Cond.code yX7_init cX7_init 1 none ∈ yU := yu_tables_1_3 18 (by decide +kernel) (by decide +kernel)
theorem u_66 : Cond.initialized RX7 ∈ yU := yu_tables_1_1 10 (by decide +kernel) (by decide +kernel)
theorem u_1552 : Cond.classLink RX9 258 RJ4 ∈ yU := yu_tables_1_7 56 (by decide +kernel) (by decide +kernel)
theorem u_1553 : Cond.methodLink RX9 260 yJ4_init_da8c8 ∈ yU := yu_tables_1_7 57 (by decide +kernel) (by decide +kernel)
theorem u_1554 : Cond.methodLink RX9 261 yJ4_append_cf468 ∈ yU := yu_tables_1_7 58 (by decide +kernel) (by decide +kernel)
theorem u_1555 : Cond.methodLink RX9 265 yJ4_toString_0e30d ∈ yU := yu_tables_1_7 59 (by decide +kernel) (by decide +kernel)
theorem u_1550 : Cond.code yX9_row cX9_row 5 (some (.object "java/lang/String")) ∈ yU := yu_tables_1_7 54 (by decide +kernel) (by decide +kernel)
theorem dX9_add_0 : decode cX9_add 0 = .ok (.lload_n 0, 1) := by decide +kernel
theorem dX9_add_1 : decode cX9_add 1 = .ok (.ldc2_w 283, 3) := by decide +kernel
theorem dX9_add_4 : decode cX9_add 4 = .ok (.lmul, 1) := by decide +kernel
theorem dX9_add_5 : decode cX9_add 5 = .ok (.lload_n 2, 1) := by decide +kernel
theorem dX9_add_6 : decode cX9_add 6 = .ok (.ladd, 1) := by decide +kernel
theorem dX9_add_7 : decode cX9_add 7 = .ok (.lreturn, 1) := by decide +kernel
def fX9_add (i1 : Int64) (i2 : Int64) : Option (Int64) := some ((i1 * 31) + i2)
abbrev hX9_add : Cond := .code yX9_add cX9_add 4 (some .long)
theorem mX9_add : yM yX9_add hX9_add 2 := ⟨u_1595, u_64, by decide +kernel, by decide +kernel, by decide +kernel⟩
set_option maxHeartbeats 4000000 in
set_option maxRecDepth 100000 in
theorem kX9_add (l : Launch) (D : va_G) (cy : Nat → ClassId) (i1 : Int64) (i2 : Int64) {res : Int64} (hR : fX9_add i1 i2 = some res) : YM l D cy yX9_add hX9_add 1 0 0 [.long i1, .long i2] [] (fun v u => v = some (.long res) ∧ u = []) := by
  unfold fX9_add at hR
  refine YM.ofL (cc := cX9_add) (maxL := 4) (ret := (some .long)) (by decide +kernel) rfl (Nat.le_of_ble_eq_true rfl) [(0, .long i1), (2, .long i2)] rfl rfl (fun p e s m args below meth c A H0 Q C hnm ret => ?_)
  refine xr_lload_n (n := 1) (j := 0) C dX9_add_0 rfl rfl ?_
  refine xr_ldc2 (n := 4) (v := 31) C u_1596 dX9_add_1 rfl ?_
  refine xr_lmul (n := 5) C dX9_add_4 rfl ?_
  refine xr_lload_n (n := 6) (j := 1) C dX9_add_5 rfl rfl ?_
  refine xr_ladd (n := 7) C dX9_add_6 rfl ?_
  obtain rfl := Option.some.inj hR
  exact ret ((i1 * 31) + i2) ⟨rfl, rfl⟩ (Nat.le_of_ble_eq_true rfl) (Nat.le_of_ble_eq_true rfl) dX9_add_7
theorem dX9_digest_0 : decode cX9_digest 0 = .ok (.aload_n 0, 1) := by decide +kernel
theorem dX9_digest_1 : decode cX9_digest 1 = .ok (.iconst 0, 1) := by decide +kernel
theorem dX9_digest_2 : decode cX9_digest 2 = .ok (.putfield 64, 3) := by decide +kernel
theorem dX9_digest_5 : decode cX9_digest 5 = .ok (.ldc2_w 285, 3) := by decide +kernel
theorem dX9_digest_8 : decode cX9_digest 8 = .ok (.lstore_n 1, 1) := by decide +kernel
theorem dX9_digest_9 : decode cX9_digest 9 = .ok (.iconst 0, 1) := by decide +kernel
theorem dX9_digest_10 : decode cX9_digest 10 = .ok (.istore_n 3, 1) := by decide +kernel
theorem dX9_digest_11 : decode cX9_digest 11 = .ok (.iload_n 3, 1) := by decide +kernel
theorem dX9_digest_12 : decode cX9_digest 12 = .ok (.bipush 16, 2) := by decide +kernel
theorem dX9_digest_14 : decode cX9_digest 14 = .ok (.if_icmp .ge 20, 3) := by decide +kernel
theorem dX9_digest_17 : decode cX9_digest 17 = .ok (.lload_n 1, 1) := by decide +kernel
theorem dX9_digest_18 : decode cX9_digest 18 = .ok (.aload_n 0, 1) := by decide +kernel
theorem dX9_digest_19 : decode cX9_digest 19 = .ok (.iload_n 3, 1) := by decide +kernel
theorem dX9_digest_20 : decode cX9_digest 20 = .ok (.invokevirtual 241, 3) := by decide +kernel
theorem dX9_digest_23 : decode cX9_digest 23 = .ok (.i2l, 1) := by decide +kernel
theorem dX9_digest_24 : decode cX9_digest 24 = .ok (.invokestatic 287, 3) := by decide +kernel
theorem dX9_digest_27 : decode cX9_digest 27 = .ok (.lstore_n 1, 1) := by decide +kernel
theorem dX9_digest_28 : decode cX9_digest 28 = .ok (.iinc 3 1, 3) := by decide +kernel
theorem dX9_digest_31 : decode cX9_digest 31 = .ok (.goto (-20), 3) := by decide +kernel
theorem dX9_digest_34 : decode cX9_digest 34 = .ok (.iconst 0, 1) := by decide +kernel
theorem dX9_digest_35 : decode cX9_digest 35 = .ok (.istore_n 3, 1) := by decide +kernel
theorem dX9_digest_36 : decode cX9_digest 36 = .ok (.iload_n 3, 1) := by decide +kernel
theorem dX9_digest_37 : decode cX9_digest 37 = .ok (.iconst 5, 1) := by decide +kernel
theorem dX9_digest_38 : decode cX9_digest 38 = .ok (.if_icmp .ge 54, 3) := by decide +kernel
theorem dX9_digest_41 : decode cX9_digest 41 = .ok (.iconst 0, 1) := by decide +kernel
theorem dX9_digest_42 : decode cX9_digest 42 = .ok (.istore 4, 2) := by decide +kernel
theorem dX9_digest_44 : decode cX9_digest 44 = .ok (.iload 4, 2) := by decide +kernel
theorem dX9_digest_46 : decode cX9_digest 46 = .ok (.iconst 5, 1) := by decide +kernel
theorem dX9_digest_47 : decode cX9_digest 47 = .ok (.if_icmp .ge 39, 3) := by decide +kernel
theorem dX9_digest_50 : decode cX9_digest 50 = .ok (.iconst 0, 1) := by decide +kernel
theorem dX9_digest_51 : decode cX9_digest 51 = .ok (.istore 5, 2) := by decide +kernel
theorem dX9_digest_53 : decode cX9_digest 53 = .ok (.iload 5, 2) := by decide +kernel
theorem dX9_digest_55 : decode cX9_digest 55 = .ok (.iconst 4, 1) := by decide +kernel
theorem dX9_digest_56 : decode cX9_digest 56 = .ok (.if_icmp .ge 24, 3) := by decide +kernel
theorem dX9_digest_59 : decode cX9_digest 59 = .ok (.lload_n 1, 1) := by decide +kernel
theorem dX9_digest_60 : decode cX9_digest 60 = .ok (.aload_n 0, 1) := by decide +kernel
theorem dX9_digest_61 : decode cX9_digest 61 = .ok (.iload_n 3, 1) := by decide +kernel
theorem dX9_digest_62 : decode cX9_digest 62 = .ok (.iload 4, 2) := by decide +kernel
theorem dX9_digest_64 : decode cX9_digest 64 = .ok (.iload 5, 2) := by decide +kernel
theorem dX9_digest_66 : decode cX9_digest 66 = .ok (.invokevirtual 250, 3) := by decide +kernel
theorem dX9_digest_69 : decode cX9_digest 69 = .ok (.i2l, 1) := by decide +kernel
theorem dX9_digest_70 : decode cX9_digest 70 = .ok (.invokestatic 287, 3) := by decide +kernel
theorem dX9_digest_73 : decode cX9_digest 73 = .ok (.lstore_n 1, 1) := by decide +kernel
theorem dX9_digest_74 : decode cX9_digest 74 = .ok (.iinc 5 1, 3) := by decide +kernel
theorem dX9_digest_77 : decode cX9_digest 77 = .ok (.goto (-24), 3) := by decide +kernel
theorem dX9_digest_80 : decode cX9_digest 80 = .ok (.iinc 4 1, 3) := by decide +kernel
theorem dX9_digest_83 : decode cX9_digest 83 = .ok (.goto (-39), 3) := by decide +kernel
theorem dX9_digest_86 : decode cX9_digest 86 = .ok (.iinc 3 1, 3) := by decide +kernel
theorem dX9_digest_89 : decode cX9_digest 89 = .ok (.goto (-53), 3) := by decide +kernel
theorem dX9_digest_92 : decode cX9_digest 92 = .ok (.aload_n 0, 1) := by decide +kernel
theorem dX9_digest_93 : decode cX9_digest 93 = .ok (.getfield 38, 3) := by decide +kernel
theorem dX9_digest_96 : decode cX9_digest 96 = .ok (.astore_n 3, 1) := by decide +kernel
theorem dX9_digest_97 : decode cX9_digest 97 = .ok (.aload_n 3, 1) := by decide +kernel
theorem dX9_digest_98 : decode cX9_digest 98 = .ok (.arraylength, 1) := by decide +kernel
theorem dX9_digest_99 : decode cX9_digest 99 = .ok (.istore 4, 2) := by decide +kernel
theorem dX9_digest_101 : decode cX9_digest 101 = .ok (.iconst 0, 1) := by decide +kernel
theorem dX9_digest_102 : decode cX9_digest 102 = .ok (.istore 5, 2) := by decide +kernel
theorem dX9_digest_104 : decode cX9_digest 104 = .ok (.iload 5, 2) := by decide +kernel
theorem dX9_digest_106 : decode cX9_digest 106 = .ok (.iload 4, 2) := by decide +kernel
theorem dX9_digest_108 : decode cX9_digest 108 = .ok (.if_icmp .ge 55, 3) := by decide +kernel
theorem dX9_digest_111 : decode cX9_digest 111 = .ok (.aload_n 3, 1) := by decide +kernel
theorem dX9_digest_112 : decode cX9_digest 112 = .ok (.iload 5, 2) := by decide +kernel
theorem dX9_digest_114 : decode cX9_digest 114 = .ok (.aaload, 1) := by decide +kernel
theorem dX9_digest_115 : decode cX9_digest 115 = .ok (.astore 6, 2) := by decide +kernel
theorem dX9_digest_117 : decode cX9_digest 117 = .ok (.aload 6, 2) := by decide +kernel
theorem dX9_digest_119 : decode cX9_digest 119 = .ok (.astore 7, 2) := by decide +kernel
theorem dX9_digest_121 : decode cX9_digest 121 = .ok (.aload 7, 2) := by decide +kernel
theorem dX9_digest_123 : decode cX9_digest 123 = .ok (.arraylength, 1) := by decide +kernel
theorem dX9_digest_124 : decode cX9_digest 124 = .ok (.istore 8, 2) := by decide +kernel
theorem dX9_digest_126 : decode cX9_digest 126 = .ok (.iconst 0, 1) := by decide +kernel
theorem dX9_digest_127 : decode cX9_digest 127 = .ok (.istore 9, 2) := by decide +kernel
theorem dX9_digest_129 : decode cX9_digest 129 = .ok (.iload 9, 2) := by decide +kernel
theorem dX9_digest_131 : decode cX9_digest 131 = .ok (.iload 8, 2) := by decide +kernel
theorem dX9_digest_133 : decode cX9_digest 133 = .ok (.if_icmp .ge 24, 3) := by decide +kernel
theorem dX9_digest_136 : decode cX9_digest 136 = .ok (.aload 7, 2) := by decide +kernel
theorem dX9_digest_138 : decode cX9_digest 138 = .ok (.iload 9, 2) := by decide +kernel
theorem dX9_digest_140 : decode cX9_digest 140 = .ok (.iaload, 1) := by decide +kernel
theorem dX9_digest_141 : decode cX9_digest 141 = .ok (.istore 10, 2) := by decide +kernel
theorem dX9_digest_143 : decode cX9_digest 143 = .ok (.lload_n 1, 1) := by decide +kernel
theorem dX9_digest_144 : decode cX9_digest 144 = .ok (.iload 10, 2) := by decide +kernel
theorem dX9_digest_146 : decode cX9_digest 146 = .ok (.i2l, 1) := by decide +kernel
theorem dX9_digest_147 : decode cX9_digest 147 = .ok (.invokestatic 287, 3) := by decide +kernel
theorem dX9_digest_150 : decode cX9_digest 150 = .ok (.lstore_n 1, 1) := by decide +kernel
theorem dX9_digest_151 : decode cX9_digest 151 = .ok (.iinc 9 1, 3) := by decide +kernel
theorem dX9_digest_154 : decode cX9_digest 154 = .ok (.goto (-25), 3) := by decide +kernel
theorem dX9_digest_157 : decode cX9_digest 157 = .ok (.iinc 5 1, 3) := by decide +kernel
theorem dX9_digest_160 : decode cX9_digest 160 = .ok (.goto (-56), 3) := by decide +kernel
theorem dX9_digest_163 : decode cX9_digest 163 = .ok (.iconst 0, 1) := by decide +kernel
theorem dX9_digest_164 : decode cX9_digest 164 = .ok (.istore_n 3, 1) := by decide +kernel
theorem dX9_digest_165 : decode cX9_digest 165 = .ok (.iload_n 3, 1) := by decide +kernel
theorem dX9_digest_166 : decode cX9_digest 166 = .ok (.aload_n 0, 1) := by decide +kernel
theorem dX9_digest_167 : decode cX9_digest 167 = .ok (.getfield 16, 3) := by decide +kernel
theorem dX9_digest_170 : decode cX9_digest 170 = .ok (.invokevirtual 106, 3) := by decide +kernel
theorem dX9_digest_173 : decode cX9_digest 173 = .ok (.if_icmp .ge 46, 3) := by decide +kernel
theorem dX9_digest_176 : decode cX9_digest 176 = .ok (.iconst 0, 1) := by decide +kernel
theorem dX9_digest_177 : decode cX9_digest 177 = .ok (.istore 4, 2) := by decide +kernel
theorem dX9_digest_179 : decode cX9_digest 179 = .ok (.iload 4, 2) := by decide +kernel
theorem dX9_digest_181 : decode cX9_digest 181 = .ok (.aload_n 0, 1) := by decide +kernel
theorem dX9_digest_182 : decode cX9_digest 182 = .ok (.getfield 16, 3) := by decide +kernel
theorem dX9_digest_185 : decode cX9_digest 185 = .ok (.invokevirtual 113, 3) := by decide +kernel
theorem dX9_digest_188 : decode cX9_digest 188 = .ok (.if_icmp .ge 25, 3) := by decide +kernel
theorem dX9_digest_191 : decode cX9_digest 191 = .ok (.lload_n 1, 1) := by decide +kernel
theorem dX9_digest_192 : decode cX9_digest 192 = .ok (.aload_n 0, 1) := by decide +kernel
theorem dX9_digest_193 : decode cX9_digest 193 = .ok (.getfield 16, 3) := by decide +kernel
theorem dX9_digest_196 : decode cX9_digest 196 = .ok (.iload_n 3, 1) := by decide +kernel
theorem dX9_digest_197 : decode cX9_digest 197 = .ok (.iload 4, 2) := by decide +kernel
theorem dX9_digest_199 : decode cX9_digest 199 = .ok (.invokevirtual 253, 3) := by decide +kernel
theorem dX9_digest_202 : decode cX9_digest 202 = .ok (.i2l, 1) := by decide +kernel
theorem dX9_digest_203 : decode cX9_digest 203 = .ok (.invokestatic 287, 3) := by decide +kernel
theorem dX9_digest_206 : decode cX9_digest 206 = .ok (.lstore_n 1, 1) := by decide +kernel
theorem dX9_digest_207 : decode cX9_digest 207 = .ok (.iinc 4 1, 3) := by decide +kernel
theorem dX9_digest_210 : decode cX9_digest 210 = .ok (.goto (-31), 3) := by decide +kernel
theorem dX9_digest_213 : decode cX9_digest 213 = .ok (.iinc 3 1, 3) := by decide +kernel
theorem dX9_digest_216 : decode cX9_digest 216 = .ok (.goto (-51), 3) := by decide +kernel
theorem dX9_digest_219 : decode cX9_digest 219 = .ok (.iconst 0, 1) := by decide +kernel
theorem dX9_digest_220 : decode cX9_digest 220 = .ok (.istore_n 3, 1) := by decide +kernel
theorem dX9_digest_221 : decode cX9_digest 221 = .ok (.iload_n 3, 1) := by decide +kernel
theorem dX9_digest_222 : decode cX9_digest 222 = .ok (.iconst 5, 1) := by decide +kernel
theorem dX9_digest_223 : decode cX9_digest 223 = .ok (.if_icmp .ge 20, 3) := by decide +kernel
theorem dX9_digest_226 : decode cX9_digest 226 = .ok (.lload_n 1, 1) := by decide +kernel
theorem dX9_digest_227 : decode cX9_digest 227 = .ok (.aload_n 0, 1) := by decide +kernel
theorem dX9_digest_228 : decode cX9_digest 228 = .ok (.iload_n 3, 1) := by decide +kernel
theorem dX9_digest_229 : decode cX9_digest 229 = .ok (.invokevirtual 269, 3) := by decide +kernel
theorem dX9_digest_232 : decode cX9_digest 232 = .ok (.i2l, 1) := by decide +kernel
theorem dX9_digest_233 : decode cX9_digest 233 = .ok (.invokestatic 287, 3) := by decide +kernel
theorem dX9_digest_236 : decode cX9_digest 236 = .ok (.lstore_n 1, 1) := by decide +kernel
theorem dX9_digest_237 : decode cX9_digest 237 = .ok (.iinc 3 1, 3) := by decide +kernel
theorem dX9_digest_240 : decode cX9_digest 240 = .ok (.goto (-19), 3) := by decide +kernel
theorem dX9_digest_243 : decode cX9_digest 243 = .ok (.lload_n 1, 1) := by decide +kernel
theorem dX9_digest_244 : decode cX9_digest 244 = .ok (.aload_n 0, 1) := by decide +kernel
theorem dX9_digest_245 : decode cX9_digest 245 = .ok (.invokevirtual 272, 3) := by decide +kernel
theorem dX9_digest_248 : decode cX9_digest 248 = .ok (.i2l, 1) := by decide +kernel
theorem dX9_digest_249 : decode cX9_digest 249 = .ok (.invokestatic 287, 3) := by decide +kernel
theorem dX9_digest_252 : decode cX9_digest 252 = .ok (.lstore_n 1, 1) := by decide +kernel
theorem dX9_digest_253 : decode cX9_digest 253 = .ok (.lload_n 1, 1) := by decide +kernel
theorem dX9_digest_254 : decode cX9_digest 254 = .ok (.aload_n 0, 1) := by decide +kernel
theorem dX9_digest_255 : decode cX9_digest 255 = .ok (.invokevirtual 279, 3) := by decide +kernel
theorem dX9_digest_258 : decode cX9_digest 258 = .ok (.invokestatic 71, 3) := by decide +kernel
theorem dX9_digest_261 : decode cX9_digest 261 = .ok (.i2l, 1) := by decide +kernel
theorem dX9_digest_262 : decode cX9_digest 262 = .ok (.invokestatic 287, 3) := by decide +kernel
theorem dX9_digest_265 : decode cX9_digest 265 = .ok (.lreturn, 1) := by decide +kernel
def fX9_digest_i (gbe : Int32) (gwo : Int32) (gta : Int64) (gwr : Int32) (gwk : Int32) (gwc : Int32) (gwg : Int32) (gws : Int32) (gwan : Nat) (gwak : Nat) (gwaG : Nat → Nat → Int32) (gwbn : Nat) (gwbk : Nat) (gwbG : Nat → Nat → Int32) (gBG : Nat → Nat → Int32) (gKG : Nat → Nat → Int32) (gUG : Nat → Nat → Int32) (gRn : Nat) (gRk : Nat) (gRG : Nat → Nat → Int32) : Option (Int64 × Int32) := ((wl (S := Int64 × Int32) (B := Int64 × Int32) (fun s_1 => (if 16 ≤ s_1.2 then some (.inr (s_1.1, s_1.2)) else ((fX9_meshTold_i gbe gwo gwr gwk gwc gwg gws gwan gwak gwaG gwbn gwbk gwbG gBG gKG gRn gRk s_1.2).bind fun x_92 => ((fX9_add s_1.1 x_92.toInt64).bind fun x_96 => some (.inl (x_96, s_1.2 + 1)))))) yFuel (5659, 0)).bind fun b_1 => ((wl (S := Int64 × Int32) (B := Int64 × Int32) (fun s_2 => (if 5 ≤ s_2.2 then some (.inr (s_2.1, s_2.2)) else ((wl (S := Int64 × Int32) (B := Int64 × Int32) (fun s_76 => (if 5 ≤ s_76.2 then some (.inr (s_76.1, s_76.2)) else ((wl (S := Int64 × Int32) (B := Int64 × Int32) (fun s_79 => (if 4 ≤ s_79.2 then some (.inr (s_79.1, s_79.2)) else ((fX9_cellTold_i gBG gKG gUG s_2.2 s_76.2 s_79.2).bind fun x_82 => ((fX9_add s_79.1 x_82.toInt64).bind fun x_86 => some (.inl (x_86, s_79.2 + 1)))))) yFuel (s_76.1, 0)).bind fun b_79 => some (.inl (b_79.1, s_76.2 + 1))))) yFuel (s_2.1, 0)).bind fun b_76 => some (.inl (b_76.1, s_2.2 + 1))))) yFuel (b_1.1, 0)).bind fun b_2 => ((wl (S := Int64 × Int32) (B := Int64 × Int32) (fun s_3 => (if (nI gRn) ≤ s_3.2 then some (.inr (s_3.1, s_3.2)) else (if ¬ (s_3.2 < 0 ∨ gRn ≤ s_3.2.toNatClampNeg) then ((wl (S := Int64 × Int32) (B := Int64 × Int32) (fun s_65 => (if (nI gRk) ≤ s_65.2 then some (.inr (s_65.1, s_65.2)) else (if ¬ (s_65.2 < 0 ∨ gRk ≤ s_65.2.toNatClampNeg) then (ylet (gRG s_3.2.toNatClampNeg s_65.2.toNatClampNeg : Int32) fun y_69 => ((fX9_add s_65.1 y_69.toInt64).bind fun x_70 => some (.inl (x_70, s_65.2 + 1)))) else none))) yFuel (s_3.1, 0)).bind fun b_65 => some (.inl (b_65.1, s_3.2 + 1))) else none))) yFuel (b_2.1, 0)).bind fun b_3 => ((wl (S := Int64 × Int32) (B := Int64 × Int32) (fun s_4 => ((fX8_rows gwr gws).bind fun x_41 => (if x_41 ≤ s_4.2 then some (.inr (s_4.1, s_4.2)) else ((wl (S := Int64 × Int32) (B := Int64 × Int32) (fun s_47 => ((fX8_columns gwc gws).bind fun x_48 => (if x_48 ≤ s_47.2 then some (.inr (s_47.1, s_47.2)) else ((fX8_plain gwr gwk gwc gwg gwan gwak gwaG gwbn gwbk gwbG s_4.2 s_47.2).bind fun x_54 => ((fX9_add s_47.1 x_54.toInt64).bind fun x_58 => some (.inl (x_58, s_47.2 + 1))))))) yFuel (s_4.1, 0)).bind fun b_47 => some (.inl (b_47.1, s_4.2 + 1)))))) yFuel (b_3.1, 0)).bind fun b_4 => ((wl (S := Int64 × Int32 × Nat × Nat) (B := Int64 × Int32 × Nat × Nat) (fun s_5 => (if s_5.2.2.1 ≤ 300 ∧ s_5.2.2.2 ≤ 600 then (if 5 ≤ s_5.2.1 then some (.inr (s_5.1, s_5.2.1, s_5.2.2.1, s_5.2.2.2)) else ((fX9_bestTold_i gwr gwk gwc gwg gws gwan gwak gwaG gwbn gwbk gwbG gKG s_5.2.1).bind fun x_32 => (if s_5.2.2.1 + 30 ≤ 300 ∧ s_5.2.2.2 + 60 ≤ 600 then ((fX9_add s_5.1 x_32.toInt64).bind fun x_37 => some (.inl (x_37, s_5.2.1 + 1, s_5.2.2.1 + 30, s_5.2.2.2 + 60))) else none))) else none)) yFuel (b_4.1, 0, 0, 0)).bind fun b_5 => (if b_5.2.2.1 ≤ 300 ∧ b_5.2.2.2 ≤ 600 then ((fX9_savedNow_i gwr gwk gwc gwg gws gwan gwak gwaG gwbn gwbk gwbG gKG).bind fun x_7 => (if b_5.2.2.1 + 60 ≤ 300 ∧ b_5.2.2.2 + 120 ≤ 600 then ((fX9_add b_5.1 x_7.toInt64).bind fun x_12 => ((fX9_isWhole_i gta gwr gwk gwc gwg gws gwan gwak gwaG gwbn gwbk gwbG gBG gKG gUG).bind fun x_16 => (if b_5.2.2.1 + 60 + 30 ≤ 300 ∧ b_5.2.2.2 + 120 + 60 ≤ 600 then ((fX9_one x_16).bind fun x_21 => ((fX9_add x_12 x_21.toInt64).bind fun x_25 => some (x_25, 0))) else none))) else none)) else none))))))
abbrev hX9_digest : Cond := .code yX9_digest cX9_digest 11 (some .long)
theorem mX9_digest : yM yX9_digest hX9_digest 0 := ⟨u_1591, u_64, by decide +kernel, by decide +kernel, by decide +kernel⟩
set_option maxHeartbeats 4000000 in
set_option maxRecDepth 100000 in
theorem kX9_digest_i (l : Launch) (D : va_G) (cy : Nat → ClassId) (g : Nat) (gth : Int32) (gw : Nat) (gB : Nat) (gK : Nat) (gU : Nat) (gS : Nat) (gbe : Int32) (gwo : Int32) (gta : Int64) (glr : Int32) (glc : Int32) (gti : Int32) (ggo : Int32) (gR : Nat) (gch : Int32) (gD : Nat) (gwr : Int32) (gwk : Int32) (gwc : Int32) (gwg : Int32) (gws : Int32) (gwa : Nat) (gwb : Nat) (gwad : Nat → Nat) (gwan : Nat) (gwak : Nat) (gwaG : Nat → Nat → Int32) (gwbd : Nat → Nat) (gwbn : Nat) (gwbk : Nat) (gwbG : Nat → Nat → Int32) (gBd : Nat → Nat) (gBG : Nat → Nat → Int32) (gKd : Nat → Nat) (gKG : Nat → Nat → Int32) (gUd : Nat → Nat) (gUG : Nat → Nat → Int32) (gSd : Nat → Nat) (gSG : Nat → Nat → Int32) (gRd : Nat → Nat) (gRn : Nat) (gRk : Nat) (gRG : Nat → Nat → Int32) {res : Int64 × Int32} (hR : fX9_digest_i gbe gwo gta gwr gwk gwc gwg gws gwan gwak gwaG gwbn gwbk gwbG gBG gKG gUG gRn gRk gRG = some res) : YM l D cy yX9_digest hX9_digest 7 300 600 [.ref g] [[(g, .inr (11, [.int gth, .ref gw, .ref gB, .ref gK, .ref gU, .ref gS, .int gbe, .int gwo, .long gta, .null, .int glr, .int glc, .int gti, .int ggo, .ref gR, .int gch, .ref gD]))], [(gw, .inr (10, [.int gwr, .int gwk, .int gwc, .int gwg, .int gws, .ref gwa, .ref gwb]))], [(gwa, .inl (cy 3, gwan, .inr (.inr (.inr (.inr (yad gwad))))))], xg_rows gwad gwan (cy 1) gwak gwaG, [(gwb, .inl (cy 3, gwbn, .inr (.inr (.inr (.inr (yad gwbd))))))], xg_rows gwbd gwbn (cy 1) gwbk gwbG, [(gB, .inl (cy 4, 5, .inr (.inr (.inr (.inr (yad gBd))))))], xg_rows gBd 5 (cy 2) 5 gBG, [(gK, .inl (cy 4, 5, .inr (.inr (.inr (.inr (yad gKd))))))], xg_rows gKd 5 (cy 2) 5 gKG, [(gU, .inl (cy 3, 5, .inr (.inr (.inr (.inr (yad gUd))))))], xg_rows gUd 5 (cy 1) 5 gUG, [(gS, .inl (cy 3, 5, .inr (.inr (.inr (.inr (yad gSd))))))], xg_rows gSd 5 (cy 1) 5 gSG, [(gR, .inl (cy 3, gRn, .inr (.inr (.inr (.inr (yad gRd))))))], xg_rows gRd gRn (cy 1) gRk gRG] (fun v u => v = some (.long res.1) ∧ u = [[(g, .inr (11, [.int res.2, .ref gw, .ref gB, .ref gK, .ref gU, .ref gS, .int gbe, .int gwo, .long gta, .null, .int glr, .int glc, .int gti, .int ggo, .ref gR, .int gch, .ref gD]))], [(gw, .inr (10, [.int gwr, .int gwk, .int gwc, .int gwg, .int gws, .ref gwa, .ref gwb]))], [(gwa, .inl (cy 3, gwan, .inr (.inr (.inr (.inr (yad gwad))))))], xg_rows gwad gwan (cy 1) gwak gwaG, [(gwb, .inl (cy 3, gwbn, .inr (.inr (.inr (.inr (yad gwbd))))))], xg_rows gwbd gwbn (cy 1) gwbk gwbG, [(gB, .inl (cy 4, 5, .inr (.inr (.inr (.inr (yad gBd))))))], xg_rows gBd 5 (cy 2) 5 gBG, [(gK, .inl (cy 4, 5, .inr (.inr (.inr (.inr (yad gKd))))))], xg_rows gKd 5 (cy 2) 5 gKG, [(gU, .inl (cy 3, 5, .inr (.inr (.inr (.inr (yad gUd))))))], xg_rows gUd 5 (cy 1) 5 gUG, [(gS, .inl (cy 3, 5, .inr (.inr (.inr (.inr (yad gSd))))))], xg_rows gSd 5 (cy 1) 5 gSG, [(gR, .inl (cy 3, gRn, .inr (.inr (.inr (.inr (yad gRd))))))], xg_rows gRd gRn (cy 1) gRk gRG]) := by
  unfold fX9_digest_i at hR
  refine YM.ofL (cc := cX9_digest) (maxL := 11) (ret := (some .long)) (by decide +kernel) rfl (Nat.le_of_ble_eq_true rfl) [(0, .ref g)] rfl rfl (fun p e s m args below meth c A H0 Q C hnm ret => ?_)
  refine xr_aload_n (n := 1) (j := 0) C dX9_digest_0 rfl rfl ?_
  refine xr_iconst (n := 2) (v := 0) C dX9_digest_1 rfl rfl ?_
  refine xr_put (n := 5) C 0 rfl rfl 0 (by decide) in_X9 tyX9 tyX9_ok nmX9 u_1237 rfl rfl rfl rfl (Nat.le_of_ble_eq_true rfl) [[(g, .inr (11, [.int 0, .ref gw, .ref gB, .ref gK, .ref gU, .ref gS, .int gbe, .int gwo, .long gta, .null, .int glr, .int glc, .int gti, .int ggo, .ref gR, .int gch, .ref gD]))], [(gw, .inr (10, [.int gwr, .int gwk, .int gwc, .int gwg, .int gws, .ref gwa, .ref gwb]))], [(gwa, .inl (cy 3, gwan, .inr (.inr (.inr (.inr (yad gwad))))))], xg_rows gwad gwan (cy 1) gwak gwaG, [(gwb, .inl (cy 3, gwbn, .inr (.inr (.inr (.inr (yad gwbd))))))], xg_rows gwbd gwbn (cy 1) gwbk gwbG, [(gB, .inl (cy 4, 5, .inr (.inr (.inr (.inr (yad gBd))))))], xg_rows gBd 5 (cy 2) 5 gBG, [(gK, .inl (cy 4, 5, .inr (.inr (.inr (.inr (yad gKd))))))], xg_rows gKd 5 (cy 2) 5 gKG, [(gU, .inl (cy 3, 5, .inr (.inr (.inr (.inr (yad gUd))))))], xg_rows gUd 5 (cy 1) 5 gUG, [(gS, .inl (cy 3, 5, .inr (.inr (.inr (.inr (yad gSd))))))], xg_rows gSd 5 (cy 1) 5 gSG, [(gR, .inl (cy 3, gRn, .inr (.inr (.inr (.inr (yad gRd))))))], xg_rows gRd gRn (cy 1) gRk gRG] rfl rfl dX9_digest_2 ?_
  refine xr_ldc2 (n := 8) (v := 5659) C u_1592 dX9_digest_5 rfl ?_
  refine xr_lstore_n (n := 9) C [(1, .long 5659), (0, .ref g)] dX9_digest_8 (by decide) rfl rfl ?_
  refine xr_iconst (n := 10) (v := 0) C dX9_digest_9 rfl rfl ?_
  refine xr_istore_n (n := 11) C [(3, .int 0), (1, .long 5659), (0, .ref g)] dX9_digest_10 (by decide) rfl rfl ?_
  refine xr_lv (lv' := [(0, .ref g), (1, .long 5659), (3, .int 0)]) [2, 1, 0] rfl ?_
  obtain ⟨b_1, hb_1, hR⟩ := yf_b hR
  have K_1 : X p l e (yR 7 300 600) s m args below meth c D A H0 11 Q [[(g, .inr (11, [.int 0, .ref gw, .ref gB, .ref gK, .ref gU, .ref gS, .int gbe, .int gwo, .long gta, .null, .int glr, .int glc, .int gti, .int ggo, .ref gR, .int gch, .ref gD]))], [(gw, .inr (10, [.int gwr, .int gwk, .int gwc, .int gwg, .int gws, .ref gwa, .ref gwb]))], [(gwa, .inl (cy 3, gwan, .inr (.inr (.inr (.inr (yad gwad))))))], xg_rows gwad gwan (cy 1) gwak gwaG, [(gwb, .inl (cy 3, gwbn, .inr (.inr (.inr (.inr (yad gwbd))))))], xg_rows gwbd gwbn (cy 1) gwbk gwbG, [(gB, .inl (cy 4, 5, .inr (.inr (.inr (.inr (yad gBd))))))], xg_rows gBd 5 (cy 2) 5 gBG, [(gK, .inl (cy 4, 5, .inr (.inr (.inr (.inr (yad gKd))))))], xg_rows gKd 5 (cy 2) 5 gKG, [(gU, .inl (cy 3, 5, .inr (.inr (.inr (.inr (yad gUd))))))], xg_rows gUd 5 (cy 1) 5 gUG, [(gS, .inl (cy 3, 5, .inr (.inr (.inr (.inr (yad gSd))))))], xg_rows gSd 5 (cy 1) 5 gSG, [(gR, .inl (cy 3, gRn, .inr (.inr (.inr (.inr (yad gRd))))))], xg_rows gRd gRn (cy 1) gRk gRG] 0 0 [(0, .ref g), (1, .long b_1.1)] 34 [] := by
    refine xr_iconst (n := 35) (v := 0) C dX9_digest_34 rfl rfl ?_
    refine xr_istore_n (n := 36) C [(3, .int 0), (0, .ref g), (1, .long b_1.1)] dX9_digest_35 (by decide) rfl rfl ?_
    refine xr_lv (lv' := [(0, .ref g), (1, .long b_1.1), (3, .int 0)]) [1, 2, 0] rfl ?_
    obtain ⟨b_2, hb_2, hR⟩ := yf_b hR
    have K_2 : X p l e (yR 7 300 600) s m args below meth c D A H0 11 Q [[(g, .inr (11, [.int 0, .ref gw, .ref gB, .ref gK, .ref gU, .ref gS, .int gbe, .int gwo, .long gta, .null, .int glr, .int glc, .int gti, .int ggo, .ref gR, .int gch, .ref gD]))], [(gw, .inr (10, [.int gwr, .int gwk, .int gwc, .int gwg, .int gws, .ref gwa, .ref gwb]))], [(gwa, .inl (cy 3, gwan, .inr (.inr (.inr (.inr (yad gwad))))))], xg_rows gwad gwan (cy 1) gwak gwaG, [(gwb, .inl (cy 3, gwbn, .inr (.inr (.inr (.inr (yad gwbd))))))], xg_rows gwbd gwbn (cy 1) gwbk gwbG, [(gB, .inl (cy 4, 5, .inr (.inr (.inr (.inr (yad gBd))))))], xg_rows gBd 5 (cy 2) 5 gBG, [(gK, .inl (cy 4, 5, .inr (.inr (.inr (.inr (yad gKd))))))], xg_rows gKd 5 (cy 2) 5 gKG, [(gU, .inl (cy 3, 5, .inr (.inr (.inr (.inr (yad gUd))))))], xg_rows gUd 5 (cy 1) 5 gUG, [(gS, .inl (cy 3, 5, .inr (.inr (.inr (.inr (yad gSd))))))], xg_rows gSd 5 (cy 1) 5 gSG, [(gR, .inl (cy 3, gRn, .inr (.inr (.inr (.inr (yad gRd))))))], xg_rows gRd gRn (cy 1) gRk gRG] 0 0 [(0, .ref g), (1, .long b_2.1)] 92 [] := by
      refine xr_aload_n (n := 93) (j := 0) C dX9_digest_92 rfl rfl ?_
      refine xr_get (n := 96) C 0 rfl rfl 14 (by decide) in_X9 u_1251 rfl (v := .ref gR) rfl dX9_digest_93 rfl ?_
      refine xr_astore_n (n := 97) C [(3, .ref gR), (0, .ref g), (1, .long b_2.1)] dX9_digest_96 (by decide) rfl rfl ?_
      refine xr_aload_n (n := 98) (j := 0) C dX9_digest_97 rfl rfl ?_
      refine xr_alen (n := 99) C 14 0 rfl 3 rfl rfl dX9_digest_98 rfl ?_
      refine xr_istore (n := 101) C [(4, .int (nI gRn)), (3, .ref gR), (0, .ref g), (1, .long b_2.1)] dX9_digest_99 (by decide) rfl rfl ?_
      refine xr_iconst (n := 102) (v := 0) C dX9_digest_101 rfl rfl ?_
      refine xr_istore (n := 104) C [(5, .int 0), (4, .int (nI gRn)), (3, .ref gR), (0, .ref g), (1, .long b_2.1)] dX9_digest_102 (by decide) rfl rfl ?_
      refine xr_lv (lv' := [(0, .ref g), (1, .long b_2.1), (3, .ref gR), (4, .int (nI gRn)), (5, .int 0)]) [3, 4, 2, 1, 0] rfl ?_
      obtain ⟨b_3, hb_3, hR⟩ := yf_b hR
      have K_3 : X p l e (yR 7 300 600) s m args below meth c D A H0 11 Q [[(g, .inr (11, [.int 0, .ref gw, .ref gB, .ref gK, .ref gU, .ref gS, .int gbe, .int gwo, .long gta, .null, .int glr, .int glc, .int gti, .int ggo, .ref gR, .int gch, .ref gD]))], [(gw, .inr (10, [.int gwr, .int gwk, .int gwc, .int gwg, .int gws, .ref gwa, .ref gwb]))], [(gwa, .inl (cy 3, gwan, .inr (.inr (.inr (.inr (yad gwad))))))], xg_rows gwad gwan (cy 1) gwak gwaG, [(gwb, .inl (cy 3, gwbn, .inr (.inr (.inr (.inr (yad gwbd))))))], xg_rows gwbd gwbn (cy 1) gwbk gwbG, [(gB, .inl (cy 4, 5, .inr (.inr (.inr (.inr (yad gBd))))))], xg_rows gBd 5 (cy 2) 5 gBG, [(gK, .inl (cy 4, 5, .inr (.inr (.inr (.inr (yad gKd))))))], xg_rows gKd 5 (cy 2) 5 gKG, [(gU, .inl (cy 3, 5, .inr (.inr (.inr (.inr (yad gUd))))))], xg_rows gUd 5 (cy 1) 5 gUG, [(gS, .inl (cy 3, 5, .inr (.inr (.inr (.inr (yad gSd))))))], xg_rows gSd 5 (cy 1) 5 gSG, [(gR, .inl (cy 3, gRn, .inr (.inr (.inr (.inr (yad gRd))))))], xg_rows gRd gRn (cy 1) gRk gRG] 0 0 [(0, .ref g), (1, .long b_3.1)] 163 [] := by
        refine xr_iconst (n := 164) (v := 0) C dX9_digest_163 rfl rfl ?_
        refine xr_istore_n (n := 165) C [(3, .int 0), (0, .ref g), (1, .long b_3.1)] dX9_digest_164 (by decide) rfl rfl ?_
        refine xr_lv (lv' := [(0, .ref g), (1, .long b_3.1), (3, .int 0)]) [1, 2, 0] rfl ?_
        obtain ⟨b_4, hb_4, hR⟩ := yf_b hR
        have K_4 : X p l e (yR 7 300 600) s m args below meth c D A H0 11 Q [[(g, .inr (11, [.int 0, .ref gw, .ref gB, .ref gK, .ref gU, .ref gS, .int gbe, .int gwo, .long gta, .null, .int glr, .int glc, .int gti, .int ggo, .ref gR, .int gch, .ref gD]))], [(gw, .inr (10, [.int gwr, .int gwk, .int gwc, .int gwg, .int gws, .ref gwa, .ref gwb]))], [(gwa, .inl (cy 3, gwan, .inr (.inr (.inr (.inr (yad gwad))))))], xg_rows gwad gwan (cy 1) gwak gwaG, [(gwb, .inl (cy 3, gwbn, .inr (.inr (.inr (.inr (yad gwbd))))))], xg_rows gwbd gwbn (cy 1) gwbk gwbG, [(gB, .inl (cy 4, 5, .inr (.inr (.inr (.inr (yad gBd))))))], xg_rows gBd 5 (cy 2) 5 gBG, [(gK, .inl (cy 4, 5, .inr (.inr (.inr (.inr (yad gKd))))))], xg_rows gKd 5 (cy 2) 5 gKG, [(gU, .inl (cy 3, 5, .inr (.inr (.inr (.inr (yad gUd))))))], xg_rows gUd 5 (cy 1) 5 gUG, [(gS, .inl (cy 3, 5, .inr (.inr (.inr (.inr (yad gSd))))))], xg_rows gSd 5 (cy 1) 5 gSG, [(gR, .inl (cy 3, gRn, .inr (.inr (.inr (.inr (yad gRd))))))], xg_rows gRd gRn (cy 1) gRk gRG] 0 0 [(0, .ref g), (1, .long b_4.1)] 219 [] := by
          refine xr_iconst (n := 220) (v := 0) C dX9_digest_219 rfl rfl ?_
          refine xr_istore_n (n := 221) C [(3, .int 0), (0, .ref g), (1, .long b_4.1)] dX9_digest_220 (by decide) rfl rfl ?_
          refine xr_lv (lv' := [(0, .ref g), (1, .long b_4.1), (3, .int 0)]) [1, 2, 0] rfl ?_
          obtain ⟨b_5, hb_5, hR⟩ := yf_b hR
          have K_5 : X p l e (yR 7 300 600) s m args below meth c D A H0 11 Q [[(g, .inr (11, [.int 0, .ref gw, .ref gB, .ref gK, .ref gU, .ref gS, .int gbe, .int gwo, .long gta, .null, .int glr, .int glc, .int gti, .int ggo, .ref gR, .int gch, .ref gD]))], [(gw, .inr (10, [.int gwr, .int gwk, .int gwc, .int gwg, .int gws, .ref gwa, .ref gwb]))], [(gwa, .inl (cy 3, gwan, .inr (.inr (.inr (.inr (yad gwad))))))], xg_rows gwad gwan (cy 1) gwak gwaG, [(gwb, .inl (cy 3, gwbn, .inr (.inr (.inr (.inr (yad gwbd))))))], xg_rows gwbd gwbn (cy 1) gwbk gwbG, [(gB, .inl (cy 4, 5, .inr (.inr (.inr (.inr (yad gBd))))))], xg_rows gBd 5 (cy 2) 5 gBG, [(gK, .inl (cy 4, 5, .inr (.inr (.inr (.inr (yad gKd))))))], xg_rows gKd 5 (cy 2) 5 gKG, [(gU, .inl (cy 3, 5, .inr (.inr (.inr (.inr (yad gUd))))))], xg_rows gUd 5 (cy 1) 5 gUG, [(gS, .inl (cy 3, 5, .inr (.inr (.inr (.inr (yad gSd))))))], xg_rows gSd 5 (cy 1) 5 gSG, [(gR, .inl (cy 3, gRn, .inr (.inr (.inr (.inr (yad gRd))))))], xg_rows gRd gRn (cy 1) gRk gRG] b_5.2.2.1 b_5.2.2.2 [(0, .ref g), (1, .long b_5.1)] 243 [] := by
            obtain ⟨g_6, hR⟩ := yf_g hR
            refine xr_lload_n (n := 244) (j := 1) C dX9_digest_243 rfl rfl ?_
            refine xr_aload_n (n := 245) (j := 0) C dX9_digest_244 rfl rfl ?_
            obtain ⟨x_7, hx_7, hR⟩ := yf_b hR
            obtain ⟨g_8, hR⟩ := yf_g hR
            refine xr_callVp (n := 248) (As := []) (rest := [.long b_5.1]) C (kX9_savedNow_i l D cy (g := g) (gth := 0) (gw := gw) (gB := gB) (gK := gK) (gU := gU) (gS := gS) (gbe := gbe) (gwo := gwo) (gta := gta) (glr := glr) (glc := glc) (gti := gti) (ggo := ggo) (gR := gR) (gch := gch) (gD := gD) (gwr := gwr) (gwk := gwk) (gwc := gwc) (gwg := gwg) (gws := gws) (gwa := gwa) (gwb := gwb) (gwad := gwad) (gwan := gwan) (gwak := gwak) (gwaG := gwaG) (gwbd := gwbd) (gwbn := gwbn) (gwbk := gwbk) (gwbG := gwbG) (gKd := gKd) (gKG := gKG) hx_7) mX9_savedNow u_1572 u_1574 u_53 0 rfl rfl 16 [0, 1, 2, 3, 4, 5, 8, 9] [6, 7, 10, 11, 12, 13, 14, 15] rfl (by decide +kernel) rfl rfl rfl rfl (Nat.le_of_ble_eq_true rfl) (Nat.le_of_ble_eq_true rfl) (Nat.le_of_ble_eq_true rfl) g_8.1 g_8.2 dX9_digest_245 rfl (fun _ _ hp => hp.2) (fun v_9 hp_11 => ?_)
            obtain ⟨rfl, -⟩ := hp_11
            refine xr_st (st' := [.int x_7, .long b_5.1]) rfl ?_
            refine xr_i2l (n := 249) C dX9_digest_248 rfl ?_
            obtain ⟨x_12, hx_12, hR⟩ := yf_b hR
            refine xr_callSp (n := 252) (As := [.long b_5.1, .long x_7.toInt64]) (rest := []) C (kX9_add l D cy (i1 := b_5.1) (i2 := x_7.toInt64) hx_12) mX9_add u_1593 u_1594 16 [] [0, 1, 2, 3, 4, 5, 6, 7, 8, 9, 10, 11, 12, 13, 14, 15] rfl (by decide +kernel) rfl rfl rfl rfl (Nat.le_of_ble_eq_true rfl) (Nat.le_of_ble_eq_true rfl) (Nat.le_of_ble_eq_true rfl) g_8.1 g_8.2 dX9_digest_249 rfl (fun _ _ hp => hp.2) (fun v_13 hp_15 => ?_)
            obtain ⟨rfl, -⟩ := hp_15
            refine xr_st (st' := [.long x_12]) rfl ?_
            refine xr_lstore_n (n := 253) C [(1, .long x_12), (0, .ref g)] dX9_digest_252 (by decide) rfl rfl ?_
            refine xr_lload_n (n := 254) (j := 0) C dX9_digest_253 rfl rfl ?_
            refine xr_aload_n (n := 255) (j := 1) C dX9_digest_254 rfl rfl ?_
            obtain ⟨x_16, hx_16, hR⟩ := yf_b hR
            obtain ⟨g_17, hR⟩ := yf_g hR
            refine xr_callVp (n := 258) (As := []) (rest := [.long x_12]) C (kX9_isWhole_i l D cy (g := g) (gth := 0) (gw := gw) (gB := gB) (gK := gK) (gU := gU) (gS := gS) (gbe := gbe) (gwo := gwo) (gta := gta) (glr := glr) (glc := glc) (gti := gti) (ggo := ggo) (gR := gR) (gch := gch) (gD := gD) (gwr := gwr) (gwk := gwk) (gwc := gwc) (gwg := gwg) (gws := gws) (gwa := gwa) (gwb := gwb) (gwad := gwad) (gwan := gwan) (gwak := gwak) (gwaG := gwaG) (gwbd := gwbd) (gwbn := gwbn) (gwbk := gwbk) (gwbG := gwbG) (gBd := gBd) (gBG := gBG) (gKd := gKd) (gKG := gKG) (gUd := gUd) (gUG := gUG) hx_16) mX9_isWhole u_1580 u_1582 u_54 0 rfl rfl 16 [0, 1, 2, 3, 4, 5, 6, 7, 8, 9, 10, 11] [12, 13, 14, 15] rfl (by decide +kernel) rfl rfl rfl rfl (Nat.le_of_ble_eq_true rfl) (Nat.le_of_ble_eq_true rfl) (Nat.le_of_ble_eq_true rfl) g_17.1 g_17.2 dX9_digest_255 rfl (fun _ _ hp => hp.2) (fun v_18 hp_20 => ?_)
            obtain ⟨rfl, -⟩ := hp_20
            refine xr_st (st' := [.int x_16, .long x_12]) rfl ?_
            obtain ⟨x_21, hx_21, hR⟩ := yf_b hR
            refine xr_callSp (n := 261) (As := [.int x_16]) (rest := [.long x_12]) C (kX9_one l D cy (i1 := x_16) hx_21) mX9_one u_1312 u_1313 16 [] [0, 1, 2, 3, 4, 5, 6, 7, 8, 9, 10, 11, 12, 13, 14, 15] rfl (by decide +kernel) rfl rfl rfl rfl (Nat.le_of_ble_eq_true rfl) (Nat.le_of_ble_eq_true rfl) (Nat.le_of_ble_eq_true rfl) g_17.1 g_17.2 dX9_digest_258 rfl (fun _ _ hp => hp.2) (fun v_22 hp_24 => ?_)
            obtain ⟨rfl, -⟩ := hp_24
            refine xr_st (st' := [.int x_21, .long x_12]) rfl ?_
            refine xr_i2l (n := 262) C dX9_digest_261 rfl ?_
            obtain ⟨x_25, hx_25, hR⟩ := yf_b hR
            refine xr_callSp (n := 265) (As := [.long x_12, .long x_21.toInt64]) (rest := []) C (kX9_add l D cy (i1 := x_12) (i2 := x_21.toInt64) hx_25) mX9_add u_1593 u_1594 16 [] [0, 1, 2, 3, 4, 5, 6, 7, 8, 9, 10, 11, 12, 13, 14, 15] rfl (by decide +kernel) rfl rfl rfl rfl (Nat.le_of_ble_eq_true rfl) (Nat.le_of_ble_eq_true rfl) (Nat.le_of_ble_eq_true rfl) g_17.1 g_17.2 dX9_digest_262 rfl (fun _ _ hp => hp.2) (fun v_26 hp_28 => ?_)
            obtain ⟨rfl, -⟩ := hp_28
            refine xr_st (st' := [.long x_25]) rfl ?_
            obtain rfl := Option.some.inj hR
            exact ret x_25 ⟨rfl, rfl⟩ g_17.1 g_17.2 dX9_digest_265
          refine y_loop (P := fun (s_5 : Int64 × Int32 × Nat × Nat) => X p l e (yR 7 300 600) s m args below meth c D A H0 11 Q [[(g, .inr (11, [.int 0, .ref gw, .ref gB, .ref gK, .ref gU, .ref gS, .int gbe, .int gwo, .long gta, .null, .int glr, .int glc, .int gti, .int ggo, .ref gR, .int gch, .ref gD]))], [(gw, .inr (10, [.int gwr, .int gwk, .int gwc, .int gwg, .int gws, .ref gwa, .ref gwb]))], [(gwa, .inl (cy 3, gwan, .inr (.inr (.inr (.inr (yad gwad))))))], xg_rows gwad gwan (cy 1) gwak gwaG, [(gwb, .inl (cy 3, gwbn, .inr (.inr (.inr (.inr (yad gwbd))))))], xg_rows gwbd gwbn (cy 1) gwbk gwbG, [(gB, .inl (cy 4, 5, .inr (.inr (.inr (.inr (yad gBd))))))], xg_rows gBd 5 (cy 2) 5 gBG, [(gK, .inl (cy 4, 5, .inr (.inr (.inr (.inr (yad gKd))))))], xg_rows gKd 5 (cy 2) 5 gKG, [(gU, .inl (cy 3, 5, .inr (.inr (.inr (.inr (yad gUd))))))], xg_rows gUd 5 (cy 1) 5 gUG, [(gS, .inl (cy 3, 5, .inr (.inr (.inr (.inr (yad gSd))))))], xg_rows gSd 5 (cy 1) 5 gSG, [(gR, .inl (cy 3, gRn, .inr (.inr (.inr (.inr (yad gRd))))))], xg_rows gRd gRn (cy 1) gRk gRG] s_5.2.2.1 s_5.2.2.2 [(0, .ref g), (1, .long s_5.1), (3, .int s_5.2.1)] 221 []) ?_ _ (b_4.1, 0, 0, 0) hb_5
          intro s_5 o_5 ho_5 hk_5 hx_5
          obtain ⟨g_29, ho_5⟩ := yf_g ho_5
          refine xr_iload_n (n := 222) (j := 2) C dX9_digest_221 rfl rfl ?_
          refine xr_iconst (n := 223) (v := 5) C dX9_digest_222 rfl rfl ?_
          refine xr_icmp_ge (tgt := 243) (n := 226) C dX9_digest_223 rfl rfl (fun c_30 => ?_) (fun c_30 => ?_)
          · replace ho_5 := yf_t c_30 ho_5
            refine xr_lv (lv' := [(0, .ref g), (1, .long s_5.1)]) [0, 1] rfl ?_
            have e_31 := hx_5 _ (Option.some.inj ho_5).symm
            subst e_31
            exact K_5
          · replace ho_5 := yf_f c_30 ho_5
            refine xr_lload_n (n := 227) (j := 1) C dX9_digest_226 rfl rfl ?_
            refine xr_aload_n (n := 228) (j := 0) C dX9_digest_227 rfl rfl ?_
            refine xr_iload_n (n := 229) (j := 2) C dX9_digest_228 rfl rfl ?_
            obtain ⟨x_32, hx_32, ho_5⟩ := yf_b ho_5
            obtain ⟨g_33, ho_5⟩ := yf_g ho_5
            refine xr_callVp (n := 232) (As := [.int s_5.2.1]) (rest := [.long s_5.1]) C (kX9_bestTold_i l D cy (g := g) (gth := 0) (gw := gw) (gB := gB) (gK := gK) (gU := gU) (gS := gS) (gbe := gbe) (gwo := gwo) (gta := gta) (glr := glr) (glc := glc) (gti := gti) (ggo := ggo) (gR := gR) (gch := gch) (gD := gD) (gwr := gwr) (gwk := gwk) (gwc := gwc) (gwg := gwg) (gws := gws) (gwa := gwa) (gwb := gwb) (gwad := gwad) (gwan := gwan) (gwak := gwak) (gwaG := gwaG) (gwbd := gwbd) (gwbn := gwbn) (gwbk := gwbk) (gwbG := gwbG) (gKd := gKd) (gKG := gKG) (i1 := s_5.2.1) hx_32) mX9_bestTold u_1564 u_1566 u_52 0 rfl rfl 16 [0, 1, 2, 3, 4, 5, 8, 9] [6, 7, 10, 11, 12, 13, 14, 15] rfl (by decide +kernel) rfl rfl rfl rfl (Nat.le_of_ble_eq_true rfl) (Nat.le_of_ble_eq_true rfl) (Nat.le_of_ble_eq_true rfl) g_33.1 g_33.2 dX9_digest_229 rfl (fun _ _ hp => hp.2) (fun v_34 hp_36 => ?_)
            obtain ⟨rfl, -⟩ := hp_36
            refine xr_st (st' := [.int x_32, .long s_5.1]) rfl ?_
            refine xr_i2l (n := 233) C dX9_digest_232 rfl ?_
            obtain ⟨x_37, hx_37, ho_5⟩ := yf_b ho_5
            refine xr_callSp (n := 236) (As := [.long s_5.1, .long x_32.toInt64]) (rest := []) C (kX9_add l D cy (i1 := s_5.1) (i2 := x_32.toInt64) hx_37) mX9_add u_1593 u_1594 16 [] [0, 1, 2, 3, 4, 5, 6, 7, 8, 9, 10, 11, 12, 13, 14, 15] rfl (by decide +kernel) rfl rfl rfl rfl (Nat.le_of_ble_eq_true rfl) (Nat.le_of_ble_eq_true rfl) (Nat.le_of_ble_eq_true rfl) g_33.1 g_33.2 dX9_digest_233 rfl (fun _ _ hp => hp.2) (fun v_38 hp_40 => ?_)
            obtain ⟨rfl, -⟩ := hp_40
            refine xr_st (st' := [.long x_37]) rfl ?_
            refine xr_lstore_n (n := 237) C [(1, .long x_37), (0, .ref g), (3, .int s_5.2.1)] dX9_digest_236 (by decide) rfl rfl ?_
            refine xr_iinc (j := 2) (v := s_5.2.1 + 1) (n := 240) C [(3, .int (s_5.2.1 + 1)), (1, .long x_37), (0, .ref g)] dX9_digest_237 rfl rfl (by decide) rfl rfl ?_
            refine xr_goto (tgt := 221) C dX9_digest_240 rfl ?_
            refine xr_lv (lv' := [(0, .ref g), (1, .long x_37), (3, .int (s_5.2.1 + 1))]) [2, 1, 0] rfl ?_
            exact hk_5 (x_37, s_5.2.1 + 1, s_5.2.2.1 + 30, s_5.2.2.2 + 60) (Option.some.inj ho_5).symm
        refine y_loop (P := fun (s_4 : Int64 × Int32) => X p l e (yR 7 300 600) s m args below meth c D A H0 11 Q [[(g, .inr (11, [.int 0, .ref gw, .ref gB, .ref gK, .ref gU, .ref gS, .int gbe, .int gwo, .long gta, .null, .int glr, .int glc, .int gti, .int ggo, .ref gR, .int gch, .ref gD]))], [(gw, .inr (10, [.int gwr, .int gwk, .int gwc, .int gwg, .int gws, .ref gwa, .ref gwb]))], [(gwa, .inl (cy 3, gwan, .inr (.inr (.inr (.inr (yad gwad))))))], xg_rows gwad gwan (cy 1) gwak gwaG, [(gwb, .inl (cy 3, gwbn, .inr (.inr (.inr (.inr (yad gwbd))))))], xg_rows gwbd gwbn (cy 1) gwbk gwbG, [(gB, .inl (cy 4, 5, .inr (.inr (.inr (.inr (yad gBd))))))], xg_rows gBd 5 (cy 2) 5 gBG, [(gK, .inl (cy 4, 5, .inr (.inr (.inr (.inr (yad gKd))))))], xg_rows gKd 5 (cy 2) 5 gKG, [(gU, .inl (cy 3, 5, .inr (.inr (.inr (.inr (yad gUd))))))], xg_rows gUd 5 (cy 1) 5 gUG, [(gS, .inl (cy 3, 5, .inr (.inr (.inr (.inr (yad gSd))))))], xg_rows gSd 5 (cy 1) 5 gSG, [(gR, .inl (cy 3, gRn, .inr (.inr (.inr (.inr (yad gRd))))))], xg_rows gRd gRn (cy 1) gRk gRG] 0 0 [(0, .ref g), (1, .long s_4.1), (3, .int s_4.2)] 165 []) ?_ _ (b_3.1, 0) hb_4
        intro s_4 o_4 ho_4 hk_4 hx_4
        refine xr_iload_n (n := 166) (j := 2) C dX9_digest_165 rfl rfl ?_
        refine xr_aload_n (n := 167) (j := 0) C dX9_digest_166 rfl rfl ?_
        refine xr_get (n := 170) C 0 rfl rfl 1 (by decide) in_X9 u_1238 rfl (v := .ref gw) rfl dX9_digest_167 rfl ?_
        obtain ⟨x_41, hx_41, ho_4⟩ := yf_b ho_4
        refine xr_callVp (n := 173) (As := []) (rest := [.int s_4.2]) C (kX8_rows l D cy (w := gw) (wr := gwr) (wk := gwk) (wc := gwc) (wg := gwg) (ws := gws) (wa := gwa) (wb := gwb) hx_41) mX8_rows u_1384 u_1385 u_1386 1 rfl rfl 16 [1] [0, 2, 3, 4, 5, 6, 7, 8, 9, 10, 11, 12, 13, 14, 15] rfl (by decide +kernel) rfl rfl rfl rfl (Nat.le_of_ble_eq_true rfl) (Nat.le_of_ble_eq_true rfl) (Nat.le_of_ble_eq_true rfl) (Nat.le_of_ble_eq_true rfl) (Nat.le_of_ble_eq_true rfl) dX9_digest_170 rfl (fun _ _ hp => hp.2) (fun v_42 hp_44 => ?_)
        obtain ⟨rfl, -⟩ := hp_44
        refine xr_st (st' := [.int x_41, .int s_4.2]) rfl ?_
        refine xr_icmp_ge (tgt := 219) (n := 176) C dX9_digest_173 rfl rfl (fun c_45 => ?_) (fun c_45 => ?_)
        · replace ho_4 := yf_t c_45 ho_4
          refine xr_lv (lv' := [(0, .ref g), (1, .long s_4.1)]) [0, 1] rfl ?_
          have e_46 := hx_4 _ (Option.some.inj ho_4).symm
          subst e_46
          exact K_4
        · replace ho_4 := yf_f c_45 ho_4
          refine xr_iconst (n := 177) (v := 0) C dX9_digest_176 rfl rfl ?_
          refine xr_istore (n := 179) C [(4, .int 0), (0, .ref g), (1, .long s_4.1), (3, .int s_4.2)] dX9_digest_177 (by decide) rfl rfl ?_
          refine xr_lv (lv' := [(0, .ref g), (1, .long s_4.1), (3, .int s_4.2), (4, .int 0)]) [1, 2, 3, 0] rfl ?_
          obtain ⟨b_47, hb_47, ho_4⟩ := yf_b ho_4
          have K_47 : X p l e (yR 7 300 600) s m args below meth c D A H0 11 Q [[(g, .inr (11, [.int 0, .ref gw, .ref gB, .ref gK, .ref gU, .ref gS, .int gbe, .int gwo, .long gta, .null, .int glr, .int glc, .int gti, .int ggo, .ref gR, .int gch, .ref gD]))], [(gw, .inr (10, [.int gwr, .int gwk, .int gwc, .int gwg, .int gws, .ref gwa, .ref gwb]))], [(gwa, .inl (cy 3, gwan, .inr (.inr (.inr (.inr (yad gwad))))))], xg_rows gwad gwan (cy 1) gwak gwaG, [(gwb, .inl (cy 3, gwbn, .inr (.inr (.inr (.inr (yad gwbd))))))], xg_rows gwbd gwbn (cy 1) gwbk gwbG, [(gB, .inl (cy 4, 5, .inr (.inr (.inr (.inr (yad gBd))))))], xg_rows gBd 5 (cy 2) 5 gBG, [(gK, .inl (cy 4, 5, .inr (.inr (.inr (.inr (yad gKd))))))], xg_rows gKd 5 (cy 2) 5 gKG, [(gU, .inl (cy 3, 5, .inr (.inr (.inr (.inr (yad gUd))))))], xg_rows gUd 5 (cy 1) 5 gUG, [(gS, .inl (cy 3, 5, .inr (.inr (.inr (.inr (yad gSd))))))], xg_rows gSd 5 (cy 1) 5 gSG, [(gR, .inl (cy 3, gRn, .inr (.inr (.inr (.inr (yad gRd))))))], xg_rows gRd gRn (cy 1) gRk gRG] 0 0 [(0, .ref g), (1, .long b_47.1), (3, .int s_4.2)] 213 [] := by
            refine xr_iinc (j := 2) (v := s_4.2 + 1) (n := 216) C [(3, .int (s_4.2 + 1)), (0, .ref g), (1, .long b_47.1)] dX9_digest_213 rfl rfl (by decide) rfl rfl ?_
            refine xr_goto (tgt := 165) C dX9_digest_216 rfl ?_
            refine xr_lv (lv' := [(0, .ref g), (1, .long b_47.1), (3, .int (s_4.2 + 1))]) [1, 2, 0] rfl ?_
            exact hk_4 (b_47.1, s_4.2 + 1) (Option.some.inj ho_4).symm
          refine y_loop (P := fun (s_47 : Int64 × Int32) => X p l e (yR 7 300 600) s m args below meth c D A H0 11 Q [[(g, .inr (11, [.int 0, .ref gw, .ref gB, .ref gK, .ref gU, .ref gS, .int gbe, .int gwo, .long gta, .null, .int glr, .int glc, .int gti, .int ggo, .ref gR, .int gch, .ref gD]))], [(gw, .inr (10, [.int gwr, .int gwk, .int gwc, .int gwg, .int gws, .ref gwa, .ref gwb]))], [(gwa, .inl (cy 3, gwan, .inr (.inr (.inr (.inr (yad gwad))))))], xg_rows gwad gwan (cy 1) gwak gwaG, [(gwb, .inl (cy 3, gwbn, .inr (.inr (.inr (.inr (yad gwbd))))))], xg_rows gwbd gwbn (cy 1) gwbk gwbG, [(gB, .inl (cy 4, 5, .inr (.inr (.inr (.inr (yad gBd))))))], xg_rows gBd 5 (cy 2) 5 gBG, [(gK, .inl (cy 4, 5, .inr (.inr (.inr (.inr (yad gKd))))))], xg_rows gKd 5 (cy 2) 5 gKG, [(gU, .inl (cy 3, 5, .inr (.inr (.inr (.inr (yad gUd))))))], xg_rows gUd 5 (cy 1) 5 gUG, [(gS, .inl (cy 3, 5, .inr (.inr (.inr (.inr (yad gSd))))))], xg_rows gSd 5 (cy 1) 5 gSG, [(gR, .inl (cy 3, gRn, .inr (.inr (.inr (.inr (yad gRd))))))], xg_rows gRd gRn (cy 1) gRk gRG] 0 0 [(0, .ref g), (1, .long s_47.1), (3, .int s_4.2), (4, .int s_47.2)] 179 []) ?_ _ (s_4.1, 0) hb_47
          intro s_47 o_47 ho_47 hk_47 hx_47
          refine xr_iload (n := 181) (j := 3) C dX9_digest_179 rfl rfl ?_
          refine xr_aload_n (n := 182) (j := 0) C dX9_digest_181 rfl rfl ?_
          refine xr_get (n := 185) C 0 rfl rfl 1 (by decide) in_X9 u_1238 rfl (v := .ref gw) rfl dX9_digest_182 rfl ?_
          obtain ⟨x_48, hx_48, ho_47⟩ := yf_b ho_47
          refine xr_callVp (n := 188) (As := []) (rest := [.int s_47.2]) C (kX8_columns l D cy (w := gw) (wr := gwr) (wk := gwk) (wc := gwc) (wg := gwg) (ws := gws) (wa := gwa) (wb := gwb) hx_48) mX8_columns u_1391 u_1392 u_1393 1 rfl rfl 16 [1] [0, 2, 3, 4, 5, 6, 7, 8, 9, 10, 11, 12, 13, 14, 15] rfl (by decide +kernel) rfl rfl rfl rfl (Nat.le_of_ble_eq_true rfl) (Nat.le_of_ble_eq_true rfl) (Nat.le_of_ble_eq_true rfl) (Nat.le_of_ble_eq_true rfl) (Nat.le_of_ble_eq_true rfl) dX9_digest_185 rfl (fun _ _ hp => hp.2) (fun v_49 hp_51 => ?_)
          obtain ⟨rfl, -⟩ := hp_51
          refine xr_st (st' := [.int x_48, .int s_47.2]) rfl ?_
          refine xr_icmp_ge (tgt := 213) (n := 191) C dX9_digest_188 rfl rfl (fun c_52 => ?_) (fun c_52 => ?_)
          · replace ho_47 := yf_t c_52 ho_47
            refine xr_lv (lv' := [(0, .ref g), (1, .long s_47.1), (3, .int s_4.2)]) [0, 1, 2] rfl ?_
            have e_53 := hx_47 _ (Option.some.inj ho_47).symm
            subst e_53
            exact K_47
          · replace ho_47 := yf_f c_52 ho_47
            refine xr_lload_n (n := 192) (j := 1) C dX9_digest_191 rfl rfl ?_
            refine xr_aload_n (n := 193) (j := 0) C dX9_digest_192 rfl rfl ?_
            refine xr_get (n := 196) C 0 rfl rfl 1 (by decide) in_X9 u_1238 rfl (v := .ref gw) rfl dX9_digest_193 rfl ?_
            refine xr_iload_n (n := 197) (j := 2) C dX9_digest_196 rfl rfl ?_
            refine xr_iload (n := 199) (j := 3) C dX9_digest_197 rfl rfl ?_
            obtain ⟨x_54, hx_54, ho_47⟩ := yf_b ho_47
            refine xr_callVp (n := 202) (As := [.int s_4.2, .int s_47.2]) (rest := [.long s_47.1]) C (kX8_plain l D cy (w := gw) (wr := gwr) (wk := gwk) (wc := gwc) (wg := gwg) (ws := gws) (wa := gwa) (wb := gwb) (wad := gwad) (wan := gwan) (wak := gwak) (waG := gwaG) (wbd := gwbd) (wbn := gwbn) (wbk := gwbk) (wbG := gwbG) (i1 := s_4.2) (i2 := s_47.2) hx_54) mX8_plain u_1539 u_1540 u_1541 1 rfl rfl 16 [1, 2, 3, 4, 5] [0, 6, 7, 8, 9, 10, 11, 12, 13, 14, 15] rfl (by decide +kernel) rfl rfl rfl rfl (Nat.le_of_ble_eq_true rfl) (Nat.le_of_ble_eq_true rfl) (Nat.le_of_ble_eq_true rfl) (Nat.le_of_ble_eq_true rfl) (Nat.le_of_ble_eq_true rfl) dX9_digest_199 rfl (fun _ _ hp => hp.2) (fun v_55 hp_57 => ?_)
            obtain ⟨rfl, -⟩ := hp_57
            refine xr_st (st' := [.int x_54, .long s_47.1]) rfl ?_
            refine xr_i2l (n := 203) C dX9_digest_202 rfl ?_
            obtain ⟨x_58, hx_58, ho_47⟩ := yf_b ho_47
            refine xr_callSp (n := 206) (As := [.long s_47.1, .long x_54.toInt64]) (rest := []) C (kX9_add l D cy (i1 := s_47.1) (i2 := x_54.toInt64) hx_58) mX9_add u_1593 u_1594 16 [] [0, 1, 2, 3, 4, 5, 6, 7, 8, 9, 10, 11, 12, 13, 14, 15] rfl (by decide +kernel) rfl rfl rfl rfl (Nat.le_of_ble_eq_true rfl) (Nat.le_of_ble_eq_true rfl) (Nat.le_of_ble_eq_true rfl) (Nat.le_of_ble_eq_true rfl) (Nat.le_of_ble_eq_true rfl) dX9_digest_203 rfl (fun _ _ hp => hp.2) (fun v_59 hp_61 => ?_)
            obtain ⟨rfl, -⟩ := hp_61
            refine xr_st (st' := [.long x_58]) rfl ?_
            refine xr_lstore_n (n := 207) C [(1, .long x_58), (0, .ref g), (3, .int s_4.2), (4, .int s_47.2)] dX9_digest_206 (by decide) rfl rfl ?_
            refine xr_iinc (j := 3) (v := s_47.2 + 1) (n := 210) C [(4, .int (s_47.2 + 1)), (1, .long x_58), (0, .ref g), (3, .int s_4.2)] dX9_digest_207 rfl rfl (by decide) rfl rfl ?_
            refine xr_goto (tgt := 179) C dX9_digest_210 rfl ?_
            refine xr_lv (lv' := [(0, .ref g), (1, .long x_58), (3, .int s_4.2), (4, .int (s_47.2 + 1))]) [2, 1, 3, 0] rfl ?_
            exact hk_47 (x_58, s_47.2 + 1) (Option.some.inj ho_47).symm
      refine y_loop (P := fun (s_3 : Int64 × Int32) => X p l e (yR 7 300 600) s m args below meth c D A H0 11 Q [[(g, .inr (11, [.int 0, .ref gw, .ref gB, .ref gK, .ref gU, .ref gS, .int gbe, .int gwo, .long gta, .null, .int glr, .int glc, .int gti, .int ggo, .ref gR, .int gch, .ref gD]))], [(gw, .inr (10, [.int gwr, .int gwk, .int gwc, .int gwg, .int gws, .ref gwa, .ref gwb]))], [(gwa, .inl (cy 3, gwan, .inr (.inr (.inr (.inr (yad gwad))))))], xg_rows gwad gwan (cy 1) gwak gwaG, [(gwb, .inl (cy 3, gwbn, .inr (.inr (.inr (.inr (yad gwbd))))))], xg_rows gwbd gwbn (cy 1) gwbk gwbG, [(gB, .inl (cy 4, 5, .inr (.inr (.inr (.inr (yad gBd))))))], xg_rows gBd 5 (cy 2) 5 gBG, [(gK, .inl (cy 4, 5, .inr (.inr (.inr (.inr (yad gKd))))))], xg_rows gKd 5 (cy 2) 5 gKG, [(gU, .inl (cy 3, 5, .inr (.inr (.inr (.inr (yad gUd))))))], xg_rows gUd 5 (cy 1) 5 gUG, [(gS, .inl (cy 3, 5, .inr (.inr (.inr (.inr (yad gSd))))))], xg_rows gSd 5 (cy 1) 5 gSG, [(gR, .inl (cy 3, gRn, .inr (.inr (.inr (.inr (yad gRd))))))], xg_rows gRd gRn (cy 1) gRk gRG] 0 0 [(0, .ref g), (1, .long s_3.1), (3, .ref gR), (4, .int (nI gRn)), (5, .int s_3.2)] 104 []) ?_ _ (b_2.1, 0) hb_3
      intro s_3 o_3 ho_3 hk_3 hx_3
      refine xr_iload (n := 106) (j := 4) C dX9_digest_104 rfl rfl ?_
      refine xr_iload (n := 108) (j := 3) C dX9_digest_106 rfl rfl ?_
      refine xr_icmp_ge (tgt := 163) (n := 111) C dX9_digest_108 rfl rfl (fun c_62 => ?_) (fun c_62 => ?_)
      · replace ho_3 := yf_t c_62 ho_3
        refine xr_lv (lv' := [(0, .ref g), (1, .long s_3.1)]) [0, 1] rfl ?_
        have e_63 := hx_3 _ (Option.some.inj ho_3).symm
        subst e_63
        exact K_3
      · replace ho_3 := yf_f c_62 ho_3
        refine xr_aload_n (n := 112) (j := 2) C dX9_digest_111 rfl rfl ?_
        refine xr_iload (n := 114) (j := 4) C dX9_digest_112 rfl rfl ?_
        obtain ⟨g_64, ho_3⟩ := yf_g ho_3
        refine xr_aald (n := 115) C 14 0 rfl 3 rfl rfl g_64 rfl dX9_digest_114 rfl ?_
        refine xr_astore (n := 117) C [(6, .ref (gRd s_3.2.toNatClampNeg)), (0, .ref g), (1, .long s_3.1), (3, .ref gR), (4, .int (nI gRn)), (5, .int s_3.2)] dX9_digest_115 (by decide) rfl rfl ?_
        refine xr_aload (n := 119) (j := 0) C dX9_digest_117 rfl rfl ?_
        refine xr_astore (n := 121) C [(7, .ref (gRd s_3.2.toNatClampNeg)), (6, .ref (gRd s_3.2.toNatClampNeg)), (0, .ref g), (1, .long s_3.1), (3, .ref gR), (4, .int (nI gRn)), (5, .int s_3.2)] dX9_digest_119 (by decide) rfl rfl ?_
        refine xr_aload (n := 123) (j := 0) C dX9_digest_121 rfl rfl ?_
        refine xr_aleng (n := 124) C 15 1 rfl s_3.2.toNatClampNeg (ylt g_64) rfl dX9_digest_123 rfl ?_
        refine xr_istore (n := 126) C [(8, .int (nI gRk)), (7, .ref (gRd s_3.2.toNatClampNeg)), (6, .ref (gRd s_3.2.toNatClampNeg)), (0, .ref g), (1, .long s_3.1), (3, .ref gR), (4, .int (nI gRn)), (5, .int s_3.2)] dX9_digest_124 (by decide) rfl rfl ?_
        refine xr_iconst (n := 127) (v := 0) C dX9_digest_126 rfl rfl ?_
        refine xr_istore (n := 129) C [(9, .int 0), (8, .int (nI gRk)), (7, .ref (gRd s_3.2.toNatClampNeg)), (6, .ref (gRd s_3.2.toNatClampNeg)), (0, .ref g), (1, .long s_3.1), (3, .ref gR), (4, .int (nI gRn)), (5, .int s_3.2)] dX9_digest_127 (by decide) rfl rfl ?_
        refine xr_lv (lv' := [(0, .ref g), (1, .long s_3.1), (3, .ref gR), (4, .int (nI gRn)), (5, .int s_3.2), (7, .ref (gRd s_3.2.toNatClampNeg)), (8, .int (nI gRk)), (9, .int 0)]) [4, 5, 6, 7, 8, 2, 1, 0] rfl ?_
        obtain ⟨b_65, hb_65, ho_3⟩ := yf_b ho_3
        have K_65 : X p l e (yR 7 300 600) s m args below meth c D A H0 11 Q [[(g, .inr (11, [.int 0, .ref gw, .ref gB, .ref gK, .ref gU, .ref gS, .int gbe, .int gwo, .long gta, .null, .int glr, .int glc, .int gti, .int ggo, .ref gR, .int gch, .ref gD]))], [(gw, .inr (10, [.int gwr, .int gwk, .int gwc, .int gwg, .int gws, .ref gwa, .ref gwb]))], [(gwa, .inl (cy 3, gwan, .inr (.inr (.inr (.inr (yad gwad))))))], xg_rows gwad gwan (cy 1) gwak gwaG, [(gwb, .inl (cy 3, gwbn, .inr (.inr (.inr (.inr (yad gwbd))))))], xg_rows gwbd gwbn (cy 1) gwbk gwbG, [(gB, .inl (cy 4, 5, .inr (.inr (.inr (.inr (yad gBd))))))], xg_rows gBd 5 (cy 2) 5 gBG, [(gK, .inl (cy 4, 5, .inr (.inr (.inr (.inr (yad gKd))))))], xg_rows gKd 5 (cy 2) 5 gKG, [(gU, .inl (cy 3, 5, .inr (.inr (.inr (.inr (yad gUd))))))], xg_rows gUd 5 (cy 1) 5 gUG, [(gS, .inl (cy 3, 5, .inr (.inr (.inr (.inr (yad gSd))))))], xg_rows gSd 5 (cy 1) 5 gSG, [(gR, .inl (cy 3, gRn, .inr (.inr (.inr (.inr (yad gRd))))))], xg_rows gRd gRn (cy 1) gRk gRG] 0 0 [(0, .ref g), (1, .long b_65.1), (3, .ref gR), (4, .int (nI gRn)), (5, .int s_3.2)] 157 [] := by
          refine xr_iinc (j := 4) (v := s_3.2 + 1) (n := 160) C [(5, .int (s_3.2 + 1)), (0, .ref g), (1, .long b_65.1), (3, .ref gR), (4, .int (nI gRn))] dX9_digest_157 rfl rfl (by decide) rfl rfl ?_
          refine xr_goto (tgt := 104) C dX9_digest_160 rfl ?_
          refine xr_lv (lv' := [(0, .ref g), (1, .long b_65.1), (3, .ref gR), (4, .int (nI gRn)), (5, .int (s_3.2 + 1))]) [1, 2, 3, 4, 0] rfl ?_
          exact hk_3 (b_65.1, s_3.2 + 1) (Option.some.inj ho_3).symm
        refine y_loop (P := fun (s_65 : Int64 × Int32) => X p l e (yR 7 300 600) s m args below meth c D A H0 11 Q [[(g, .inr (11, [.int 0, .ref gw, .ref gB, .ref gK, .ref gU, .ref gS, .int gbe, .int gwo, .long gta, .null, .int glr, .int glc, .int gti, .int ggo, .ref gR, .int gch, .ref gD]))], [(gw, .inr (10, [.int gwr, .int gwk, .int gwc, .int gwg, .int gws, .ref gwa, .ref gwb]))], [(gwa, .inl (cy 3, gwan, .inr (.inr (.inr (.inr (yad gwad))))))], xg_rows gwad gwan (cy 1) gwak gwaG, [(gwb, .inl (cy 3, gwbn, .inr (.inr (.inr (.inr (yad gwbd))))))], xg_rows gwbd gwbn (cy 1) gwbk gwbG, [(gB, .inl (cy 4, 5, .inr (.inr (.inr (.inr (yad gBd))))))], xg_rows gBd 5 (cy 2) 5 gBG, [(gK, .inl (cy 4, 5, .inr (.inr (.inr (.inr (yad gKd))))))], xg_rows gKd 5 (cy 2) 5 gKG, [(gU, .inl (cy 3, 5, .inr (.inr (.inr (.inr (yad gUd))))))], xg_rows gUd 5 (cy 1) 5 gUG, [(gS, .inl (cy 3, 5, .inr (.inr (.inr (.inr (yad gSd))))))], xg_rows gSd 5 (cy 1) 5 gSG, [(gR, .inl (cy 3, gRn, .inr (.inr (.inr (.inr (yad gRd))))))], xg_rows gRd gRn (cy 1) gRk gRG] 0 0 [(0, .ref g), (1, .long s_65.1), (3, .ref gR), (4, .int (nI gRn)), (5, .int s_3.2), (7, .ref (gRd s_3.2.toNatClampNeg)), (8, .int (nI gRk)), (9, .int s_65.2)] 129 []) ?_ _ (s_3.1, 0) hb_65
        intro s_65 o_65 ho_65 hk_65 hx_65
        refine xr_iload (n := 131) (j := 7) C dX9_digest_129 rfl rfl ?_
        refine xr_iload (n := 133) (j := 6) C dX9_digest_131 rfl rfl ?_
        refine xr_icmp_ge (tgt := 157) (n := 136) C dX9_digest_133 rfl rfl (fun c_66 => ?_) (fun c_66 => ?_)
        · replace ho_65 := yf_t c_66 ho_65
          refine xr_lv (lv' := [(0, .ref g), (1, .long s_65.1), (3, .ref gR), (4, .int (nI gRn)), (5, .int s_3.2)]) [0, 1, 2, 3, 4] rfl ?_
          have e_67 := hx_65 _ (Option.some.inj ho_65).symm
          subst e_67
          exact K_65
        · replace ho_65 := yf_f c_66 ho_65
          refine xr_aload (n := 138) (j := 5) C dX9_digest_136 rfl rfl ?_
          refine xr_iload (n := 140) (j := 7) C dX9_digest_138 rfl rfl ?_
          obtain ⟨g_68, ho_65⟩ := yf_g ho_65
          refine xr_ialdg (n := 141) C 15 rfl s_3.2.toNatClampNeg (ylt g_64) g_68 dX9_digest_140 rfl ?_
          obtain ⟨y_69, ey_69, ho_65⟩ := yf_l ho_65
          refine xr_topI ey_69 ?_
          refine xr_istore (n := 143) C [(10, .int y_69), (0, .ref g), (1, .long s_65.1), (3, .ref gR), (4, .int (nI gRn)), (5, .int s_3.2), (7, .ref (gRd s_3.2.toNatClampNeg)), (8, .int (nI gRk)), (9, .int s_65.2)] dX9_digest_141 (by decide) rfl rfl ?_
          refine xr_lload_n (n := 144) (j := 2) C dX9_digest_143 rfl rfl ?_
          refine xr_iload (n := 146) (j := 0) C dX9_digest_144 rfl rfl ?_
          refine xr_i2l (n := 147) C dX9_digest_146 rfl ?_
          obtain ⟨x_70, hx_70, ho_65⟩ := yf_b ho_65
          refine xr_callSp (n := 150) (As := [.long s_65.1, .long y_69.toInt64]) (rest := []) C (kX9_add l D cy (i1 := s_65.1) (i2 := y_69.toInt64) hx_70) mX9_add u_1593 u_1594 16 [] [0, 1, 2, 3, 4, 5, 6, 7, 8, 9, 10, 11, 12, 13, 14, 15] rfl (by decide +kernel) rfl rfl rfl rfl (Nat.le_of_ble_eq_true rfl) (Nat.le_of_ble_eq_true rfl) (Nat.le_of_ble_eq_true rfl) (Nat.le_of_ble_eq_true rfl) (Nat.le_of_ble_eq_true rfl) dX9_digest_147 rfl (fun _ _ hp => hp.2) (fun v_71 hp_73 => ?_)
          obtain ⟨rfl, -⟩ := hp_73
          refine xr_st (st' := [.long x_70]) rfl ?_
          refine xr_lstore_n (n := 151) C [(1, .long x_70), (10, .int y_69), (0, .ref g), (3, .ref gR), (4, .int (nI gRn)), (5, .int s_3.2), (7, .ref (gRd s_3.2.toNatClampNeg)), (8, .int (nI gRk)), (9, .int s_65.2)] dX9_digest_150 (by decide) rfl rfl ?_
          refine xr_iinc (j := 8) (v := s_65.2 + 1) (n := 154) C [(9, .int (s_65.2 + 1)), (1, .long x_70), (10, .int y_69), (0, .ref g), (3, .ref gR), (4, .int (nI gRn)), (5, .int s_3.2), (7, .ref (gRd s_3.2.toNatClampNeg)), (8, .int (nI gRk))] dX9_digest_151 rfl rfl (by decide) rfl rfl ?_
          refine xr_goto (tgt := 129) C dX9_digest_154 rfl ?_
          refine xr_lv (lv' := [(0, .ref g), (1, .long x_70), (3, .ref gR), (4, .int (nI gRn)), (5, .int s_3.2), (7, .ref (gRd s_3.2.toNatClampNeg)), (8, .int (nI gRk)), (9, .int (s_65.2 + 1))]) [3, 1, 4, 5, 6, 7, 8, 0] rfl ?_
          exact hk_65 (x_70, s_65.2 + 1) (Option.some.inj ho_65).symm
    refine y_loop (P := fun (s_2 : Int64 × Int32) => X p l e (yR 7 300 600) s m args below meth c D A H0 11 Q [[(g, .inr (11, [.int 0, .ref gw, .ref gB, .ref gK, .ref gU, .ref gS, .int gbe, .int gwo, .long gta, .null, .int glr, .int glc, .int gti, .int ggo, .ref gR, .int gch, .ref gD]))], [(gw, .inr (10, [.int gwr, .int gwk, .int gwc, .int gwg, .int gws, .ref gwa, .ref gwb]))], [(gwa, .inl (cy 3, gwan, .inr (.inr (.inr (.inr (yad gwad))))))], xg_rows gwad gwan (cy 1) gwak gwaG, [(gwb, .inl (cy 3, gwbn, .inr (.inr (.inr (.inr (yad gwbd))))))], xg_rows gwbd gwbn (cy 1) gwbk gwbG, [(gB, .inl (cy 4, 5, .inr (.inr (.inr (.inr (yad gBd))))))], xg_rows gBd 5 (cy 2) 5 gBG, [(gK, .inl (cy 4, 5, .inr (.inr (.inr (.inr (yad gKd))))))], xg_rows gKd 5 (cy 2) 5 gKG, [(gU, .inl (cy 3, 5, .inr (.inr (.inr (.inr (yad gUd))))))], xg_rows gUd 5 (cy 1) 5 gUG, [(gS, .inl (cy 3, 5, .inr (.inr (.inr (.inr (yad gSd))))))], xg_rows gSd 5 (cy 1) 5 gSG, [(gR, .inl (cy 3, gRn, .inr (.inr (.inr (.inr (yad gRd))))))], xg_rows gRd gRn (cy 1) gRk gRG] 0 0 [(0, .ref g), (1, .long s_2.1), (3, .int s_2.2)] 36 []) ?_ _ (b_1.1, 0) hb_2
    intro s_2 o_2 ho_2 hk_2 hx_2
    refine xr_iload_n (n := 37) (j := 2) C dX9_digest_36 rfl rfl ?_
    refine xr_iconst (n := 38) (v := 5) C dX9_digest_37 rfl rfl ?_
    refine xr_icmp_ge (tgt := 92) (n := 41) C dX9_digest_38 rfl rfl (fun c_74 => ?_) (fun c_74 => ?_)
    · replace ho_2 := yf_t c_74 ho_2
      refine xr_lv (lv' := [(0, .ref g), (1, .long s_2.1)]) [0, 1] rfl ?_
      have e_75 := hx_2 _ (Option.some.inj ho_2).symm
      subst e_75
      exact K_2
    · replace ho_2 := yf_f c_74 ho_2
      refine xr_iconst (n := 42) (v := 0) C dX9_digest_41 rfl rfl ?_
      refine xr_istore (n := 44) C [(4, .int 0), (0, .ref g), (1, .long s_2.1), (3, .int s_2.2)] dX9_digest_42 (by decide) rfl rfl ?_
      refine xr_lv (lv' := [(0, .ref g), (1, .long s_2.1), (3, .int s_2.2), (4, .int 0)]) [1, 2, 3, 0] rfl ?_
      obtain ⟨b_76, hb_76, ho_2⟩ := yf_b ho_2
      have K_76 : X p l e (yR 7 300 600) s m args below meth c D A H0 11 Q [[(g, .inr (11, [.int 0, .ref gw, .ref gB, .ref gK, .ref gU, .ref gS, .int gbe, .int gwo, .long gta, .null, .int glr, .int glc, .int gti, .int ggo, .ref gR, .int gch, .ref gD]))], [(gw, .inr (10, [.int gwr, .int gwk, .int gwc, .int gwg, .int gws, .ref gwa, .ref gwb]))], [(gwa, .inl (cy 3, gwan, .inr (.inr (.inr (.inr (yad gwad))))))], xg_rows gwad gwan (cy 1) gwak gwaG, [(gwb, .inl (cy 3, gwbn, .inr (.inr (.inr (.inr (yad gwbd))))))], xg_rows gwbd gwbn (cy 1) gwbk gwbG, [(gB, .inl (cy 4, 5, .inr (.inr (.inr (.inr (yad gBd))))))], xg_rows gBd 5 (cy 2) 5 gBG, [(gK, .inl (cy 4, 5, .inr (.inr (.inr (.inr (yad gKd))))))], xg_rows gKd 5 (cy 2) 5 gKG, [(gU, .inl (cy 3, 5, .inr (.inr (.inr (.inr (yad gUd))))))], xg_rows gUd 5 (cy 1) 5 gUG, [(gS, .inl (cy 3, 5, .inr (.inr (.inr (.inr (yad gSd))))))], xg_rows gSd 5 (cy 1) 5 gSG, [(gR, .inl (cy 3, gRn, .inr (.inr (.inr (.inr (yad gRd))))))], xg_rows gRd gRn (cy 1) gRk gRG] 0 0 [(0, .ref g), (1, .long b_76.1), (3, .int s_2.2)] 86 [] := by
        refine xr_iinc (j := 2) (v := s_2.2 + 1) (n := 89) C [(3, .int (s_2.2 + 1)), (0, .ref g), (1, .long b_76.1)] dX9_digest_86 rfl rfl (by decide) rfl rfl ?_
        refine xr_goto (tgt := 36) C dX9_digest_89 rfl ?_
        refine xr_lv (lv' := [(0, .ref g), (1, .long b_76.1), (3, .int (s_2.2 + 1))]) [1, 2, 0] rfl ?_
        exact hk_2 (b_76.1, s_2.2 + 1) (Option.some.inj ho_2).symm
      refine y_loop (P := fun (s_76 : Int64 × Int32) => X p l e (yR 7 300 600) s m args below meth c D A H0 11 Q [[(g, .inr (11, [.int 0, .ref gw, .ref gB, .ref gK, .ref gU, .ref gS, .int gbe, .int gwo, .long gta, .null, .int glr, .int glc, .int gti, .int ggo, .ref gR, .int gch, .ref gD]))], [(gw, .inr (10, [.int gwr, .int gwk, .int gwc, .int gwg, .int gws, .ref gwa, .ref gwb]))], [(gwa, .inl (cy 3, gwan, .inr (.inr (.inr (.inr (yad gwad))))))], xg_rows gwad gwan (cy 1) gwak gwaG, [(gwb, .inl (cy 3, gwbn, .inr (.inr (.inr (.inr (yad gwbd))))))], xg_rows gwbd gwbn (cy 1) gwbk gwbG, [(gB, .inl (cy 4, 5, .inr (.inr (.inr (.inr (yad gBd))))))], xg_rows gBd 5 (cy 2) 5 gBG, [(gK, .inl (cy 4, 5, .inr (.inr (.inr (.inr (yad gKd))))))], xg_rows gKd 5 (cy 2) 5 gKG, [(gU, .inl (cy 3, 5, .inr (.inr (.inr (.inr (yad gUd))))))], xg_rows gUd 5 (cy 1) 5 gUG, [(gS, .inl (cy 3, 5, .inr (.inr (.inr (.inr (yad gSd))))))], xg_rows gSd 5 (cy 1) 5 gSG, [(gR, .inl (cy 3, gRn, .inr (.inr (.inr (.inr (yad gRd))))))], xg_rows gRd gRn (cy 1) gRk gRG] 0 0 [(0, .ref g), (1, .long s_76.1), (3, .int s_2.2), (4, .int s_76.2)] 44 []) ?_ _ (s_2.1, 0) hb_76
      intro s_76 o_76 ho_76 hk_76 hx_76
      refine xr_iload (n := 46) (j := 3) C dX9_digest_44 rfl rfl ?_
      refine xr_iconst (n := 47) (v := 5) C dX9_digest_46 rfl rfl ?_
      refine xr_icmp_ge (tgt := 86) (n := 50) C dX9_digest_47 rfl rfl (fun c_77 => ?_) (fun c_77 => ?_)
      · replace ho_76 := yf_t c_77 ho_76
        refine xr_lv (lv' := [(0, .ref g), (1, .long s_76.1), (3, .int s_2.2)]) [0, 1, 2] rfl ?_
        have e_78 := hx_76 _ (Option.some.inj ho_76).symm
        subst e_78
        exact K_76
      · replace ho_76 := yf_f c_77 ho_76
        refine xr_iconst (n := 51) (v := 0) C dX9_digest_50 rfl rfl ?_
        refine xr_istore (n := 53) C [(5, .int 0), (0, .ref g), (1, .long s_76.1), (3, .int s_2.2), (4, .int s_76.2)] dX9_digest_51 (by decide) rfl rfl ?_
        refine xr_lv (lv' := [(0, .ref g), (1, .long s_76.1), (3, .int s_2.2), (4, .int s_76.2), (5, .int 0)]) [1, 2, 3, 4, 0] rfl ?_
        obtain ⟨b_79, hb_79, ho_76⟩ := yf_b ho_76
        have K_79 : X p l e (yR 7 300 600) s m args below meth c D A H0 11 Q [[(g, .inr (11, [.int 0, .ref gw, .ref gB, .ref gK, .ref gU, .ref gS, .int gbe, .int gwo, .long gta, .null, .int glr, .int glc, .int gti, .int ggo, .ref gR, .int gch, .ref gD]))], [(gw, .inr (10, [.int gwr, .int gwk, .int gwc, .int gwg, .int gws, .ref gwa, .ref gwb]))], [(gwa, .inl (cy 3, gwan, .inr (.inr (.inr (.inr (yad gwad))))))], xg_rows gwad gwan (cy 1) gwak gwaG, [(gwb, .inl (cy 3, gwbn, .inr (.inr (.inr (.inr (yad gwbd))))))], xg_rows gwbd gwbn (cy 1) gwbk gwbG, [(gB, .inl (cy 4, 5, .inr (.inr (.inr (.inr (yad gBd))))))], xg_rows gBd 5 (cy 2) 5 gBG, [(gK, .inl (cy 4, 5, .inr (.inr (.inr (.inr (yad gKd))))))], xg_rows gKd 5 (cy 2) 5 gKG, [(gU, .inl (cy 3, 5, .inr (.inr (.inr (.inr (yad gUd))))))], xg_rows gUd 5 (cy 1) 5 gUG, [(gS, .inl (cy 3, 5, .inr (.inr (.inr (.inr (yad gSd))))))], xg_rows gSd 5 (cy 1) 5 gSG, [(gR, .inl (cy 3, gRn, .inr (.inr (.inr (.inr (yad gRd))))))], xg_rows gRd gRn (cy 1) gRk gRG] 0 0 [(0, .ref g), (1, .long b_79.1), (3, .int s_2.2), (4, .int s_76.2)] 80 [] := by
          refine xr_iinc (j := 3) (v := s_76.2 + 1) (n := 83) C [(4, .int (s_76.2 + 1)), (0, .ref g), (1, .long b_79.1), (3, .int s_2.2)] dX9_digest_80 rfl rfl (by decide) rfl rfl ?_
          refine xr_goto (tgt := 44) C dX9_digest_83 rfl ?_
          refine xr_lv (lv' := [(0, .ref g), (1, .long b_79.1), (3, .int s_2.2), (4, .int (s_76.2 + 1))]) [1, 2, 3, 0] rfl ?_
          exact hk_76 (b_79.1, s_76.2 + 1) (Option.some.inj ho_76).symm
        refine y_loop (P := fun (s_79 : Int64 × Int32) => X p l e (yR 7 300 600) s m args below meth c D A H0 11 Q [[(g, .inr (11, [.int 0, .ref gw, .ref gB, .ref gK, .ref gU, .ref gS, .int gbe, .int gwo, .long gta, .null, .int glr, .int glc, .int gti, .int ggo, .ref gR, .int gch, .ref gD]))], [(gw, .inr (10, [.int gwr, .int gwk, .int gwc, .int gwg, .int gws, .ref gwa, .ref gwb]))], [(gwa, .inl (cy 3, gwan, .inr (.inr (.inr (.inr (yad gwad))))))], xg_rows gwad gwan (cy 1) gwak gwaG, [(gwb, .inl (cy 3, gwbn, .inr (.inr (.inr (.inr (yad gwbd))))))], xg_rows gwbd gwbn (cy 1) gwbk gwbG, [(gB, .inl (cy 4, 5, .inr (.inr (.inr (.inr (yad gBd))))))], xg_rows gBd 5 (cy 2) 5 gBG, [(gK, .inl (cy 4, 5, .inr (.inr (.inr (.inr (yad gKd))))))], xg_rows gKd 5 (cy 2) 5 gKG, [(gU, .inl (cy 3, 5, .inr (.inr (.inr (.inr (yad gUd))))))], xg_rows gUd 5 (cy 1) 5 gUG, [(gS, .inl (cy 3, 5, .inr (.inr (.inr (.inr (yad gSd))))))], xg_rows gSd 5 (cy 1) 5 gSG, [(gR, .inl (cy 3, gRn, .inr (.inr (.inr (.inr (yad gRd))))))], xg_rows gRd gRn (cy 1) gRk gRG] 0 0 [(0, .ref g), (1, .long s_79.1), (3, .int s_2.2), (4, .int s_76.2), (5, .int s_79.2)] 53 []) ?_ _ (s_76.1, 0) hb_79
        intro s_79 o_79 ho_79 hk_79 hx_79
        refine xr_iload (n := 55) (j := 4) C dX9_digest_53 rfl rfl ?_
        refine xr_iconst (n := 56) (v := 4) C dX9_digest_55 rfl rfl ?_
        refine xr_icmp_ge (tgt := 80) (n := 59) C dX9_digest_56 rfl rfl (fun c_80 => ?_) (fun c_80 => ?_)
        · replace ho_79 := yf_t c_80 ho_79
          refine xr_lv (lv' := [(0, .ref g), (1, .long s_79.1), (3, .int s_2.2), (4, .int s_76.2)]) [0, 1, 2, 3] rfl ?_
          have e_81 := hx_79 _ (Option.some.inj ho_79).symm
          subst e_81
          exact K_79
        · replace ho_79 := yf_f c_80 ho_79
          refine xr_lload_n (n := 60) (j := 1) C dX9_digest_59 rfl rfl ?_
          refine xr_aload_n (n := 61) (j := 0) C dX9_digest_60 rfl rfl ?_
          refine xr_iload_n (n := 62) (j := 2) C dX9_digest_61 rfl rfl ?_
          refine xr_iload (n := 64) (j := 3) C dX9_digest_62 rfl rfl ?_
          refine xr_iload (n := 66) (j := 4) C dX9_digest_64 rfl rfl ?_
          obtain ⟨x_82, hx_82, ho_79⟩ := yf_b ho_79
          refine xr_callVp (n := 69) (As := [.int s_2.2, .int s_76.2, .int s_79.2]) (rest := [.long s_79.1]) C (kX9_cellTold_i l D cy (g := g) (gth := 0) (gw := gw) (gB := gB) (gK := gK) (gU := gU) (gS := gS) (gbe := gbe) (gwo := gwo) (gta := gta) (glr := glr) (glc := glc) (gti := gti) (ggo := ggo) (gR := gR) (gch := gch) (gD := gD) (gBd := gBd) (gBG := gBG) (gKd := gKd) (gKG := gKG) (gUd := gUd) (gUG := gUG) (gSd := gSd) (gSG := gSG) (i1 := s_2.2) (i2 := s_76.2) (i3 := s_79.2) hx_82) mX9_cellTold u_1520 u_1522 u_50 0 rfl rfl 16 [0, 6, 7, 8, 9, 10, 11, 12, 13] [1, 2, 3, 4, 5, 14, 15] rfl (by decide +kernel) rfl rfl rfl rfl (Nat.le_of_ble_eq_true rfl) (Nat.le_of_ble_eq_true rfl) (Nat.le_of_ble_eq_true rfl) (Nat.le_of_ble_eq_true rfl) (Nat.le_of_ble_eq_true rfl) dX9_digest_66 rfl (fun _ _ hp => hp.2) (fun v_83 hp_85 => ?_)
          obtain ⟨rfl, -⟩ := hp_85
          refine xr_st (st' := [.int x_82, .long s_79.1]) rfl ?_
          refine xr_i2l (n := 70) C dX9_digest_69 rfl ?_
          obtain ⟨x_86, hx_86, ho_79⟩ := yf_b ho_79
          refine xr_callSp (n := 73) (As := [.long s_79.1, .long x_82.toInt64]) (rest := []) C (kX9_add l D cy (i1 := s_79.1) (i2 := x_82.toInt64) hx_86) mX9_add u_1593 u_1594 16 [] [0, 1, 2, 3, 4, 5, 6, 7, 8, 9, 10, 11, 12, 13, 14, 15] rfl (by decide +kernel) rfl rfl rfl rfl (Nat.le_of_ble_eq_true rfl) (Nat.le_of_ble_eq_true rfl) (Nat.le_of_ble_eq_true rfl) (Nat.le_of_ble_eq_true rfl) (Nat.le_of_ble_eq_true rfl) dX9_digest_70 rfl (fun _ _ hp => hp.2) (fun v_87 hp_89 => ?_)
          obtain ⟨rfl, -⟩ := hp_89
          refine xr_st (st' := [.long x_86]) rfl ?_
          refine xr_lstore_n (n := 74) C [(1, .long x_86), (0, .ref g), (3, .int s_2.2), (4, .int s_76.2), (5, .int s_79.2)] dX9_digest_73 (by decide) rfl rfl ?_
          refine xr_iinc (j := 4) (v := s_79.2 + 1) (n := 77) C [(5, .int (s_79.2 + 1)), (1, .long x_86), (0, .ref g), (3, .int s_2.2), (4, .int s_76.2)] dX9_digest_74 rfl rfl (by decide) rfl rfl ?_
          refine xr_goto (tgt := 53) C dX9_digest_77 rfl ?_
          refine xr_lv (lv' := [(0, .ref g), (1, .long x_86), (3, .int s_2.2), (4, .int s_76.2), (5, .int (s_79.2 + 1))]) [2, 1, 3, 4, 0] rfl ?_
          exact hk_79 (x_86, s_79.2 + 1) (Option.some.inj ho_79).symm
  refine y_loop (P := fun (s_1 : Int64 × Int32) => X p l e (yR 7 300 600) s m args below meth c D A H0 11 Q [[(g, .inr (11, [.int 0, .ref gw, .ref gB, .ref gK, .ref gU, .ref gS, .int gbe, .int gwo, .long gta, .null, .int glr, .int glc, .int gti, .int ggo, .ref gR, .int gch, .ref gD]))], [(gw, .inr (10, [.int gwr, .int gwk, .int gwc, .int gwg, .int gws, .ref gwa, .ref gwb]))], [(gwa, .inl (cy 3, gwan, .inr (.inr (.inr (.inr (yad gwad))))))], xg_rows gwad gwan (cy 1) gwak gwaG, [(gwb, .inl (cy 3, gwbn, .inr (.inr (.inr (.inr (yad gwbd))))))], xg_rows gwbd gwbn (cy 1) gwbk gwbG, [(gB, .inl (cy 4, 5, .inr (.inr (.inr (.inr (yad gBd))))))], xg_rows gBd 5 (cy 2) 5 gBG, [(gK, .inl (cy 4, 5, .inr (.inr (.inr (.inr (yad gKd))))))], xg_rows gKd 5 (cy 2) 5 gKG, [(gU, .inl (cy 3, 5, .inr (.inr (.inr (.inr (yad gUd))))))], xg_rows gUd 5 (cy 1) 5 gUG, [(gS, .inl (cy 3, 5, .inr (.inr (.inr (.inr (yad gSd))))))], xg_rows gSd 5 (cy 1) 5 gSG, [(gR, .inl (cy 3, gRn, .inr (.inr (.inr (.inr (yad gRd))))))], xg_rows gRd gRn (cy 1) gRk gRG] 0 0 [(0, .ref g), (1, .long s_1.1), (3, .int s_1.2)] 11 []) ?_ _ (5659, 0) hb_1
  intro s_1 o_1 ho_1 hk_1 hx_1
  refine xr_iload_n (n := 12) (j := 2) C dX9_digest_11 rfl rfl ?_
  refine xr_bipush (n := 14) (v := 16) C dX9_digest_12 rfl rfl ?_
  refine xr_icmp_ge (tgt := 34) (n := 17) C dX9_digest_14 rfl rfl (fun c_90 => ?_) (fun c_90 => ?_)
  · replace ho_1 := yf_t c_90 ho_1
    refine xr_lv (lv' := [(0, .ref g), (1, .long s_1.1)]) [0, 1] rfl ?_
    have e_91 := hx_1 _ (Option.some.inj ho_1).symm
    subst e_91
    exact K_1
  · replace ho_1 := yf_f c_90 ho_1
    refine xr_lload_n (n := 18) (j := 1) C dX9_digest_17 rfl rfl ?_
    refine xr_aload_n (n := 19) (j := 0) C dX9_digest_18 rfl rfl ?_
    refine xr_iload_n (n := 20) (j := 2) C dX9_digest_19 rfl rfl ?_
    obtain ⟨x_92, hx_92, ho_1⟩ := yf_b ho_1
    refine xr_callVp (n := 23) (As := [.int s_1.2]) (rest := [.long s_1.1]) C (kX9_meshTold_i l D cy (g := g) (gth := 0) (gw := gw) (gB := gB) (gK := gK) (gU := gU) (gS := gS) (gbe := gbe) (gwo := gwo) (gta := gta) (glr := glr) (glc := glc) (gti := gti) (ggo := ggo) (gR := gR) (gch := gch) (gD := gD) (gwr := gwr) (gwk := gwk) (gwc := gwc) (gwg := gwg) (gws := gws) (gwa := gwa) (gwb := gwb) (gwad := gwad) (gwan := gwan) (gwak := gwak) (gwaG := gwaG) (gwbd := gwbd) (gwbn := gwbn) (gwbk := gwbk) (gwbG := gwbG) (gBd := gBd) (gBG := gBG) (gKd := gKd) (gKG := gKG) (gRd := gRd) (gRn := gRn) (gRk := gRk) (gRG := gRG) (i1 := s_1.2) hx_92) mX9_meshTold u_1512 u_1514 u_49 0 rfl rfl 16 [0, 1, 2, 3, 4, 5, 6, 7, 8, 9, 14, 15] [10, 11, 12, 13] rfl (by decide +kernel) rfl rfl rfl rfl (Nat.le_of_ble_eq_true rfl) (Nat.le_of_ble_eq_true rfl) (Nat.le_of_ble_eq_true rfl) (Nat.le_of_ble_eq_true rfl) (Nat.le_of_ble_eq_true rfl) dX9_digest_20 rfl (fun _ _ hp => hp.2) (fun v_93 hp_95 => ?_)
    obtain ⟨rfl, -⟩ := hp_95
    refine xr_st (st' := [.int x_92, .long s_1.1]) rfl ?_
    refine xr_i2l (n := 24) C dX9_digest_23 rfl ?_
    obtain ⟨x_96, hx_96, ho_1⟩ := yf_b ho_1
    refine xr_callSp (n := 27) (As := [.long s_1.1, .long x_92.toInt64]) (rest := []) C (kX9_add l D cy (i1 := s_1.1) (i2 := x_92.toInt64) hx_96) mX9_add u_1593 u_1594 16 [] [0, 1, 2, 3, 4, 5, 6, 7, 8, 9, 10, 11, 12, 13, 14, 15] rfl (by decide +kernel) rfl rfl rfl rfl (Nat.le_of_ble_eq_true rfl) (Nat.le_of_ble_eq_true rfl) (Nat.le_of_ble_eq_true rfl) (Nat.le_of_ble_eq_true rfl) (Nat.le_of_ble_eq_true rfl) dX9_digest_24 rfl (fun _ _ hp => hp.2) (fun v_97 hp_99 => ?_)
    obtain ⟨rfl, -⟩ := hp_99
    refine xr_st (st' := [.long x_96]) rfl ?_
    refine xr_lstore_n (n := 28) C [(1, .long x_96), (0, .ref g), (3, .int s_1.2)] dX9_digest_27 (by decide) rfl rfl ?_
    refine xr_iinc (j := 2) (v := s_1.2 + 1) (n := 31) C [(3, .int (s_1.2 + 1)), (1, .long x_96), (0, .ref g)] dX9_digest_28 rfl rfl (by decide) rfl rfl ?_
    refine xr_goto (tgt := 11) C dX9_digest_31 rfl ?_
    refine xr_lv (lv' := [(0, .ref g), (1, .long x_96), (3, .int (s_1.2 + 1))]) [2, 1, 0] rfl ?_
    exact hk_1 (x_96, s_1.2 + 1) (Option.some.inj ho_1).symm
def fX9_digest_r (gbe : Int32) (gwo : Int32) (gta : Int64) (glr : Int32) (glc : Int32) (gti : Int32) (ggo : Int32) (gwr : Int32) (gwk : Int32) (gwc : Int32) (gwg : Int32) (gws : Int32) (gwan : Nat) (gwak : Nat) (gwaG : Nat → Nat → Int32) (gwbn : Nat) (gwbk : Nat) (gwbG : Nat → Nat → Int32) (gBG : Nat → Nat → Int32) (gKG : Nat → Nat → Int32) (gUG : Nat → Nat → Int32) (gSG : Nat → Nat → Int32) (gRn : Nat) (gRk : Nat) (gRG : Nat → Nat → Int32) (gnr : Int32) (gnk : Int32) (gnc : Int32) (gng : Int32) (gns : Int32) (gnan : Nat) (gnak : Nat) (gnaG : Nat → Nat → Int32) (gnbn : Nat) (gnbk : Nat) (gnbG : Nat → Nat → Int32) : Option (Int64 × Int32) := ((wl (S := Int64 × Int32) (B := Int64 × Int32) (fun s_1 => (if 16 ≤ s_1.2 then some (.inr (s_1.1, s_1.2)) else ((fX9_meshTold_r gbe gwo glr glc gti ggo gwr gwk gwc gwg gws gwan gwak gwaG gwbn gwbk gwbG gBG gKG gRn gRk gnr gnk gnc gng gns gnan gnak gnaG gnbn gnbk gnbG s_1.2).bind fun x_92 => ((fX9_add s_1.1 x_92.toInt64).bind fun x_96 => some (.inl (x_96, s_1.2 + 1)))))) yFuel (5659, 0)).bind fun b_1 => ((wl (S := Int64 × Int32) (B := Int64 × Int32) (fun s_2 => (if 5 ≤ s_2.2 then some (.inr (s_2.1, s_2.2)) else ((wl (S := Int64 × Int32) (B := Int64 × Int32) (fun s_76 => (if 5 ≤ s_76.2 then some (.inr (s_76.1, s_76.2)) else ((wl (S := Int64 × Int32) (B := Int64 × Int32) (fun s_79 => (if 4 ≤ s_79.2 then some (.inr (s_79.1, s_79.2)) else ((fX9_cellTold_r glr glc gti ggo gBG gKG gUG gSG gnr gnk gnc gng gns gnan gnak gnaG gnbn gnbk gnbG s_2.2 s_76.2 s_79.2).bind fun x_82 => ((fX9_add s_79.1 x_82.toInt64).bind fun x_86 => some (.inl (x_86, s_79.2 + 1)))))) yFuel (s_76.1, 0)).bind fun b_79 => some (.inl (b_79.1, s_76.2 + 1))))) yFuel (s_2.1, 0)).bind fun b_76 => some (.inl (b_76.1, s_2.2 + 1))))) yFuel (b_1.1, 0)).bind fun b_2 => ((wl (S := Int64 × Int32) (B := Int64 × Int32) (fun s_3 => (if (nI gRn) ≤ s_3.2 then some (.inr (s_3.1, s_3.2)) else (if ¬ (s_3.2 < 0 ∨ gRn ≤ s_3.2.toNatClampNeg) then ((wl (S := Int64 × Int32) (B := Int64 × Int32) (fun s_65 => (if (nI gRk) ≤ s_65.2 then some (.inr (s_65.1, s_65.2)) else (if ¬ (s_65.2 < 0 ∨ gRk ≤ s_65.2.toNatClampNeg) then (ylet (gRG s_3.2.toNatClampNeg s_65.2.toNatClampNeg : Int32) fun y_69 => ((fX9_add s_65.1 y_69.toInt64).bind fun x_70 => some (.inl (x_70, s_65.2 + 1)))) else none))) yFuel (s_3.1, 0)).bind fun b_65 => some (.inl (b_65.1, s_3.2 + 1))) else none))) yFuel (b_2.1, 0)).bind fun b_3 => ((wl (S := Int64 × Int32) (B := Int64 × Int32) (fun s_4 => ((fX8_rows gwr gws).bind fun x_41 => (if x_41 ≤ s_4.2 then some (.inr (s_4.1, s_4.2)) else ((wl (S := Int64 × Int32) (B := Int64 × Int32) (fun s_47 => ((fX8_columns gwc gws).bind fun x_48 => (if x_48 ≤ s_47.2 then some (.inr (s_47.1, s_47.2)) else ((fX8_plain gwr gwk gwc gwg gwan gwak gwaG gwbn gwbk gwbG s_4.2 s_47.2).bind fun x_54 => ((fX9_add s_47.1 x_54.toInt64).bind fun x_58 => some (.inl (x_58, s_47.2 + 1))))))) yFuel (s_4.1, 0)).bind fun b_47 => some (.inl (b_47.1, s_4.2 + 1)))))) yFuel (b_3.1, 0)).bind fun b_4 => ((wl (S := Int64 × Int32 × Nat × Nat) (B := Int64 × Int32 × Nat × Nat) (fun s_5 => (if s_5.2.2.1 ≤ 300 ∧ s_5.2.2.2 ≤ 600 then (if 5 ≤ s_5.2.1 then some (.inr (s_5.1, s_5.2.1, s_5.2.2.1, s_5.2.2.2)) else ((fX9_bestTold_r gwr gwk gwc gwg gws gwan gwak gwaG gwbn gwbk gwbG gKG s_5.2.1).bind fun x_32 => (if s_5.2.2.1 + 30 ≤ 300 ∧ s_5.2.2.2 + 60 ≤ 600 then ((fX9_add s_5.1 x_32.toInt64).bind fun x_37 => some (.inl (x_37, s_5.2.1 + 1, s_5.2.2.1 + 30, s_5.2.2.2 + 60))) else none))) else none)) yFuel (b_4.1, 0, 0, 0)).bind fun b_5 => (if b_5.2.2.1 ≤ 300 ∧ b_5.2.2.2 ≤ 600 then ((fX9_savedNow_r gwr gwk gwc gwg gws gwan gwak gwaG gwbn gwbk gwbG gKG).bind fun x_7 => (if b_5.2.2.1 + 60 ≤ 300 ∧ b_5.2.2.2 + 120 ≤ 600 then ((fX9_add b_5.1 x_7.toInt64).bind fun x_12 => ((fX9_isWhole_r gta glr glc gti ggo gwr gwk gwc gwg gws gwan gwak gwaG gwbn gwbk gwbG gBG gKG gUG gnr gnk gnc gng gns gnan gnak gnaG gnbn gnbk gnbG).bind fun x_16 => (if b_5.2.2.1 + 60 + 30 ≤ 300 ∧ b_5.2.2.2 + 120 + 60 ≤ 600 then ((fX9_one x_16).bind fun x_21 => ((fX9_add x_12 x_21.toInt64).bind fun x_25 => some (x_25, 0))) else none))) else none)) else none))))))
set_option maxHeartbeats 4000000 in
set_option maxRecDepth 100000 in
theorem kX9_digest_r (l : Launch) (D : va_G) (cy : Nat → ClassId) (g : Nat) (gth : Int32) (gw : Nat) (gB : Nat) (gK : Nat) (gU : Nat) (gS : Nat) (gbe : Int32) (gwo : Int32) (gta : Int64) (gn : Nat) (glr : Int32) (glc : Int32) (gti : Int32) (ggo : Int32) (gR : Nat) (gch : Int32) (gD : Nat) (gwr : Int32) (gwk : Int32) (gwc : Int32) (gwg : Int32) (gws : Int32) (gwa : Nat) (gwb : Nat) (gwad : Nat → Nat) (gwan : Nat) (gwak : Nat) (gwaG : Nat → Nat → Int32) (gwbd : Nat → Nat) (gwbn : Nat) (gwbk : Nat) (gwbG : Nat → Nat → Int32) (gBd : Nat → Nat) (gBG : Nat → Nat → Int32) (gKd : Nat → Nat) (gKG : Nat → Nat → Int32) (gUd : Nat → Nat) (gUG : Nat → Nat → Int32) (gSd : Nat → Nat) (gSG : Nat → Nat → Int32) (gRd : Nat → Nat) (gRn : Nat) (gRk : Nat) (gRG : Nat → Nat → Int32) (gnr : Int32) (gnk : Int32) (gnc : Int32) (gng : Int32) (gns : Int32) (gna : Nat) (gnb : Nat) (gnad : Nat → Nat) (gnan : Nat) (gnak : Nat) (gnaG : Nat → Nat → Int32) (gnbd : Nat → Nat) (gnbn : Nat) (gnbk : Nat) (gnbG : Nat → Nat → Int32) {res : Int64 × Int32} (hR : fX9_digest_r gbe gwo gta glr glc gti ggo gwr gwk gwc gwg gws gwan gwak gwaG gwbn gwbk gwbG gBG gKG gUG gSG gRn gRk gRG gnr gnk gnc gng gns gnan gnak gnaG gnbn gnbk gnbG = some res) : YM l D cy yX9_digest hX9_digest 7 300 600 [.ref g] [[(g, .inr (11, [.int gth, .ref gw, .ref gB, .ref gK, .ref gU, .ref gS, .int gbe, .int gwo, .long gta, .ref gn, .int glr, .int glc, .int gti, .int ggo, .ref gR, .int gch, .ref gD]))], [(gw, .inr (10, [.int gwr, .int gwk, .int gwc, .int gwg, .int gws, .ref gwa, .ref gwb]))], [(gwa, .inl (cy 3, gwan, .inr (.inr (.inr (.inr (yad gwad))))))], xg_rows gwad gwan (cy 1) gwak gwaG, [(gwb, .inl (cy 3, gwbn, .inr (.inr (.inr (.inr (yad gwbd))))))], xg_rows gwbd gwbn (cy 1) gwbk gwbG, [(gB, .inl (cy 4, 5, .inr (.inr (.inr (.inr (yad gBd))))))], xg_rows gBd 5 (cy 2) 5 gBG, [(gK, .inl (cy 4, 5, .inr (.inr (.inr (.inr (yad gKd))))))], xg_rows gKd 5 (cy 2) 5 gKG, [(gU, .inl (cy 3, 5, .inr (.inr (.inr (.inr (yad gUd))))))], xg_rows gUd 5 (cy 1) 5 gUG, [(gS, .inl (cy 3, 5, .inr (.inr (.inr (.inr (yad gSd))))))], xg_rows gSd 5 (cy 1) 5 gSG, [(gR, .inl (cy 3, gRn, .inr (.inr (.inr (.inr (yad gRd))))))], xg_rows gRd gRn (cy 1) gRk gRG, [(gn, .inr (10, [.int gnr, .int gnk, .int gnc, .int gng, .int gns, .ref gna, .ref gnb]))], [(gna, .inl (cy 3, gnan, .inr (.inr (.inr (.inr (yad gnad))))))], xg_rows gnad gnan (cy 1) gnak gnaG, [(gnb, .inl (cy 3, gnbn, .inr (.inr (.inr (.inr (yad gnbd))))))], xg_rows gnbd gnbn (cy 1) gnbk gnbG] (fun v u => v = some (.long res.1) ∧ u = [[(g, .inr (11, [.int res.2, .ref gw, .ref gB, .ref gK, .ref gU, .ref gS, .int gbe, .int gwo, .long gta, .ref gn, .int glr, .int glc, .int gti, .int ggo, .ref gR, .int gch, .ref gD]))], [(gw, .inr (10, [.int gwr, .int gwk, .int gwc, .int gwg, .int gws, .ref gwa, .ref gwb]))], [(gwa, .inl (cy 3, gwan, .inr (.inr (.inr (.inr (yad gwad))))))], xg_rows gwad gwan (cy 1) gwak gwaG, [(gwb, .inl (cy 3, gwbn, .inr (.inr (.inr (.inr (yad gwbd))))))], xg_rows gwbd gwbn (cy 1) gwbk gwbG, [(gB, .inl (cy 4, 5, .inr (.inr (.inr (.inr (yad gBd))))))], xg_rows gBd 5 (cy 2) 5 gBG, [(gK, .inl (cy 4, 5, .inr (.inr (.inr (.inr (yad gKd))))))], xg_rows gKd 5 (cy 2) 5 gKG, [(gU, .inl (cy 3, 5, .inr (.inr (.inr (.inr (yad gUd))))))], xg_rows gUd 5 (cy 1) 5 gUG, [(gS, .inl (cy 3, 5, .inr (.inr (.inr (.inr (yad gSd))))))], xg_rows gSd 5 (cy 1) 5 gSG, [(gR, .inl (cy 3, gRn, .inr (.inr (.inr (.inr (yad gRd))))))], xg_rows gRd gRn (cy 1) gRk gRG, [(gn, .inr (10, [.int gnr, .int gnk, .int gnc, .int gng, .int gns, .ref gna, .ref gnb]))], [(gna, .inl (cy 3, gnan, .inr (.inr (.inr (.inr (yad gnad))))))], xg_rows gnad gnan (cy 1) gnak gnaG, [(gnb, .inl (cy 3, gnbn, .inr (.inr (.inr (.inr (yad gnbd))))))], xg_rows gnbd gnbn (cy 1) gnbk gnbG]) := by
  unfold fX9_digest_r at hR
  refine YM.ofL (cc := cX9_digest) (maxL := 11) (ret := (some .long)) (by decide +kernel) rfl (Nat.le_of_ble_eq_true rfl) [(0, .ref g)] rfl rfl (fun p e s m args below meth c A H0 Q C hnm ret => ?_)
  refine xr_aload_n (n := 1) (j := 0) C dX9_digest_0 rfl rfl ?_
  refine xr_iconst (n := 2) (v := 0) C dX9_digest_1 rfl rfl ?_
  refine xr_put (n := 5) C 0 rfl rfl 0 (by decide) in_X9 tyX9 tyX9_ok nmX9 u_1237 rfl rfl rfl rfl (Nat.le_of_ble_eq_true rfl) [[(g, .inr (11, [.int 0, .ref gw, .ref gB, .ref gK, .ref gU, .ref gS, .int gbe, .int gwo, .long gta, .ref gn, .int glr, .int glc, .int gti, .int ggo, .ref gR, .int gch, .ref gD]))], [(gw, .inr (10, [.int gwr, .int gwk, .int gwc, .int gwg, .int gws, .ref gwa, .ref gwb]))], [(gwa, .inl (cy 3, gwan, .inr (.inr (.inr (.inr (yad gwad))))))], xg_rows gwad gwan (cy 1) gwak gwaG, [(gwb, .inl (cy 3, gwbn, .inr (.inr (.inr (.inr (yad gwbd))))))], xg_rows gwbd gwbn (cy 1) gwbk gwbG, [(gB, .inl (cy 4, 5, .inr (.inr (.inr (.inr (yad gBd))))))], xg_rows gBd 5 (cy 2) 5 gBG, [(gK, .inl (cy 4, 5, .inr (.inr (.inr (.inr (yad gKd))))))], xg_rows gKd 5 (cy 2) 5 gKG, [(gU, .inl (cy 3, 5, .inr (.inr (.inr (.inr (yad gUd))))))], xg_rows gUd 5 (cy 1) 5 gUG, [(gS, .inl (cy 3, 5, .inr (.inr (.inr (.inr (yad gSd))))))], xg_rows gSd 5 (cy 1) 5 gSG, [(gR, .inl (cy 3, gRn, .inr (.inr (.inr (.inr (yad gRd))))))], xg_rows gRd gRn (cy 1) gRk gRG, [(gn, .inr (10, [.int gnr, .int gnk, .int gnc, .int gng, .int gns, .ref gna, .ref gnb]))], [(gna, .inl (cy 3, gnan, .inr (.inr (.inr (.inr (yad gnad))))))], xg_rows gnad gnan (cy 1) gnak gnaG, [(gnb, .inl (cy 3, gnbn, .inr (.inr (.inr (.inr (yad gnbd))))))], xg_rows gnbd gnbn (cy 1) gnbk gnbG] rfl rfl dX9_digest_2 ?_
  refine xr_ldc2 (n := 8) (v := 5659) C u_1592 dX9_digest_5 rfl ?_
  refine xr_lstore_n (n := 9) C [(1, .long 5659), (0, .ref g)] dX9_digest_8 (by decide) rfl rfl ?_
  refine xr_iconst (n := 10) (v := 0) C dX9_digest_9 rfl rfl ?_
  refine xr_istore_n (n := 11) C [(3, .int 0), (1, .long 5659), (0, .ref g)] dX9_digest_10 (by decide) rfl rfl ?_
  refine xr_lv (lv' := [(0, .ref g), (1, .long 5659), (3, .int 0)]) [2, 1, 0] rfl ?_
  obtain ⟨b_1, hb_1, hR⟩ := yf_b hR
  have K_1 : X p l e (yR 7 300 600) s m args below meth c D A H0 11 Q [[(g, .inr (11, [.int 0, .ref gw, .ref gB, .ref gK, .ref gU, .ref gS, .int gbe, .int gwo, .long gta, .ref gn, .int glr, .int glc, .int gti, .int ggo, .ref gR, .int gch, .ref gD]))], [(gw, .inr (10, [.int gwr, .int gwk, .int gwc, .int gwg, .int gws, .ref gwa, .ref gwb]))], [(gwa, .inl (cy 3, gwan, .inr (.inr (.inr (.inr (yad gwad))))))], xg_rows gwad gwan (cy 1) gwak gwaG, [(gwb, .inl (cy 3, gwbn, .inr (.inr (.inr (.inr (yad gwbd))))))], xg_rows gwbd gwbn (cy 1) gwbk gwbG, [(gB, .inl (cy 4, 5, .inr (.inr (.inr (.inr (yad gBd))))))], xg_rows gBd 5 (cy 2) 5 gBG, [(gK, .inl (cy 4, 5, .inr (.inr (.inr (.inr (yad gKd))))))], xg_rows gKd 5 (cy 2) 5 gKG, [(gU, .inl (cy 3, 5, .inr (.inr (.inr (.inr (yad gUd))))))], xg_rows gUd 5 (cy 1) 5 gUG, [(gS, .inl (cy 3, 5, .inr (.inr (.inr (.inr (yad gSd))))))], xg_rows gSd 5 (cy 1) 5 gSG, [(gR, .inl (cy 3, gRn, .inr (.inr (.inr (.inr (yad gRd))))))], xg_rows gRd gRn (cy 1) gRk gRG, [(gn, .inr (10, [.int gnr, .int gnk, .int gnc, .int gng, .int gns, .ref gna, .ref gnb]))], [(gna, .inl (cy 3, gnan, .inr (.inr (.inr (.inr (yad gnad))))))], xg_rows gnad gnan (cy 1) gnak gnaG, [(gnb, .inl (cy 3, gnbn, .inr (.inr (.inr (.inr (yad gnbd))))))], xg_rows gnbd gnbn (cy 1) gnbk gnbG] 0 0 [(0, .ref g), (1, .long b_1.1)] 34 [] := by
    refine xr_iconst (n := 35) (v := 0) C dX9_digest_34 rfl rfl ?_
    refine xr_istore_n (n := 36) C [(3, .int 0), (0, .ref g), (1, .long b_1.1)] dX9_digest_35 (by decide) rfl rfl ?_
    refine xr_lv (lv' := [(0, .ref g), (1, .long b_1.1), (3, .int 0)]) [1, 2, 0] rfl ?_
    obtain ⟨b_2, hb_2, hR⟩ := yf_b hR
    have K_2 : X p l e (yR 7 300 600) s m args below meth c D A H0 11 Q [[(g, .inr (11, [.int 0, .ref gw, .ref gB, .ref gK, .ref gU, .ref gS, .int gbe, .int gwo, .long gta, .ref gn, .int glr, .int glc, .int gti, .int ggo, .ref gR, .int gch, .ref gD]))], [(gw, .inr (10, [.int gwr, .int gwk, .int gwc, .int gwg, .int gws, .ref gwa, .ref gwb]))], [(gwa, .inl (cy 3, gwan, .inr (.inr (.inr (.inr (yad gwad))))))], xg_rows gwad gwan (cy 1) gwak gwaG, [(gwb, .inl (cy 3, gwbn, .inr (.inr (.inr (.inr (yad gwbd))))))], xg_rows gwbd gwbn (cy 1) gwbk gwbG, [(gB, .inl (cy 4, 5, .inr (.inr (.inr (.inr (yad gBd))))))], xg_rows gBd 5 (cy 2) 5 gBG, [(gK, .inl (cy 4, 5, .inr (.inr (.inr (.inr (yad gKd))))))], xg_rows gKd 5 (cy 2) 5 gKG, [(gU, .inl (cy 3, 5, .inr (.inr (.inr (.inr (yad gUd))))))], xg_rows gUd 5 (cy 1) 5 gUG, [(gS, .inl (cy 3, 5, .inr (.inr (.inr (.inr (yad gSd))))))], xg_rows gSd 5 (cy 1) 5 gSG, [(gR, .inl (cy 3, gRn, .inr (.inr (.inr (.inr (yad gRd))))))], xg_rows gRd gRn (cy 1) gRk gRG, [(gn, .inr (10, [.int gnr, .int gnk, .int gnc, .int gng, .int gns, .ref gna, .ref gnb]))], [(gna, .inl (cy 3, gnan, .inr (.inr (.inr (.inr (yad gnad))))))], xg_rows gnad gnan (cy 1) gnak gnaG, [(gnb, .inl (cy 3, gnbn, .inr (.inr (.inr (.inr (yad gnbd))))))], xg_rows gnbd gnbn (cy 1) gnbk gnbG] 0 0 [(0, .ref g), (1, .long b_2.1)] 92 [] := by
      refine xr_aload_n (n := 93) (j := 0) C dX9_digest_92 rfl rfl ?_
      refine xr_get (n := 96) C 0 rfl rfl 14 (by decide) in_X9 u_1251 rfl (v := .ref gR) rfl dX9_digest_93 rfl ?_
      refine xr_astore_n (n := 97) C [(3, .ref gR), (0, .ref g), (1, .long b_2.1)] dX9_digest_96 (by decide) rfl rfl ?_
      refine xr_aload_n (n := 98) (j := 0) C dX9_digest_97 rfl rfl ?_
      refine xr_alen (n := 99) C 14 0 rfl 3 rfl rfl dX9_digest_98 rfl ?_
      refine xr_istore (n := 101) C [(4, .int (nI gRn)), (3, .ref gR), (0, .ref g), (1, .long b_2.1)] dX9_digest_99 (by decide) rfl rfl ?_
      refine xr_iconst (n := 102) (v := 0) C dX9_digest_101 rfl rfl ?_
      refine xr_istore (n := 104) C [(5, .int 0), (4, .int (nI gRn)), (3, .ref gR), (0, .ref g), (1, .long b_2.1)] dX9_digest_102 (by decide) rfl rfl ?_
      refine xr_lv (lv' := [(0, .ref g), (1, .long b_2.1), (3, .ref gR), (4, .int (nI gRn)), (5, .int 0)]) [3, 4, 2, 1, 0] rfl ?_
      obtain ⟨b_3, hb_3, hR⟩ := yf_b hR
      have K_3 : X p l e (yR 7 300 600) s m args below meth c D A H0 11 Q [[(g, .inr (11, [.int 0, .ref gw, .ref gB, .ref gK, .ref gU, .ref gS, .int gbe, .int gwo, .long gta, .ref gn, .int glr, .int glc, .int gti, .int ggo, .ref gR, .int gch, .ref gD]))], [(gw, .inr (10, [.int gwr, .int gwk, .int gwc, .int gwg, .int gws, .ref gwa, .ref gwb]))], [(gwa, .inl (cy 3, gwan, .inr (.inr (.inr (.inr (yad gwad))))))], xg_rows gwad gwan (cy 1) gwak gwaG, [(gwb, .inl (cy 3, gwbn, .inr (.inr (.inr (.inr (yad gwbd))))))], xg_rows gwbd gwbn (cy 1) gwbk gwbG, [(gB, .inl (cy 4, 5, .inr (.inr (.inr (.inr (yad gBd))))))], xg_rows gBd 5 (cy 2) 5 gBG, [(gK, .inl (cy 4, 5, .inr (.inr (.inr (.inr (yad gKd))))))], xg_rows gKd 5 (cy 2) 5 gKG, [(gU, .inl (cy 3, 5, .inr (.inr (.inr (.inr (yad gUd))))))], xg_rows gUd 5 (cy 1) 5 gUG, [(gS, .inl (cy 3, 5, .inr (.inr (.inr (.inr (yad gSd))))))], xg_rows gSd 5 (cy 1) 5 gSG, [(gR, .inl (cy 3, gRn, .inr (.inr (.inr (.inr (yad gRd))))))], xg_rows gRd gRn (cy 1) gRk gRG, [(gn, .inr (10, [.int gnr, .int gnk, .int gnc, .int gng, .int gns, .ref gna, .ref gnb]))], [(gna, .inl (cy 3, gnan, .inr (.inr (.inr (.inr (yad gnad))))))], xg_rows gnad gnan (cy 1) gnak gnaG, [(gnb, .inl (cy 3, gnbn, .inr (.inr (.inr (.inr (yad gnbd))))))], xg_rows gnbd gnbn (cy 1) gnbk gnbG] 0 0 [(0, .ref g), (1, .long b_3.1)] 163 [] := by
        refine xr_iconst (n := 164) (v := 0) C dX9_digest_163 rfl rfl ?_
        refine xr_istore_n (n := 165) C [(3, .int 0), (0, .ref g), (1, .long b_3.1)] dX9_digest_164 (by decide) rfl rfl ?_
        refine xr_lv (lv' := [(0, .ref g), (1, .long b_3.1), (3, .int 0)]) [1, 2, 0] rfl ?_
        obtain ⟨b_4, hb_4, hR⟩ := yf_b hR
        have K_4 : X p l e (yR 7 300 600) s m args below meth c D A H0 11 Q [[(g, .inr (11, [.int 0, .ref gw, .ref gB, .ref gK, .ref gU, .ref gS, .int gbe, .int gwo, .long gta, .ref gn, .int glr, .int glc, .int gti, .int ggo, .ref gR, .int gch, .ref gD]))], [(gw, .inr (10, [.int gwr, .int gwk, .int gwc, .int gwg, .int gws, .ref gwa, .ref gwb]))], [(gwa, .inl (cy 3, gwan, .inr (.inr (.inr (.inr (yad gwad))))))], xg_rows gwad gwan (cy 1) gwak gwaG, [(gwb, .inl (cy 3, gwbn, .inr (.inr (.inr (.inr (yad gwbd))))))], xg_rows gwbd gwbn (cy 1) gwbk gwbG, [(gB, .inl (cy 4, 5, .inr (.inr (.inr (.inr (yad gBd))))))], xg_rows gBd 5 (cy 2) 5 gBG, [(gK, .inl (cy 4, 5, .inr (.inr (.inr (.inr (yad gKd))))))], xg_rows gKd 5 (cy 2) 5 gKG, [(gU, .inl (cy 3, 5, .inr (.inr (.inr (.inr (yad gUd))))))], xg_rows gUd 5 (cy 1) 5 gUG, [(gS, .inl (cy 3, 5, .inr (.inr (.inr (.inr (yad gSd))))))], xg_rows gSd 5 (cy 1) 5 gSG, [(gR, .inl (cy 3, gRn, .inr (.inr (.inr (.inr (yad gRd))))))], xg_rows gRd gRn (cy 1) gRk gRG, [(gn, .inr (10, [.int gnr, .int gnk, .int gnc, .int gng, .int gns, .ref gna, .ref gnb]))], [(gna, .inl (cy 3, gnan, .inr (.inr (.inr (.inr (yad gnad))))))], xg_rows gnad gnan (cy 1) gnak gnaG, [(gnb, .inl (cy 3, gnbn, .inr (.inr (.inr (.inr (yad gnbd))))))], xg_rows gnbd gnbn (cy 1) gnbk gnbG] 0 0 [(0, .ref g), (1, .long b_4.1)] 219 [] := by
          refine xr_iconst (n := 220) (v := 0) C dX9_digest_219 rfl rfl ?_
          refine xr_istore_n (n := 221) C [(3, .int 0), (0, .ref g), (1, .long b_4.1)] dX9_digest_220 (by decide) rfl rfl ?_
          refine xr_lv (lv' := [(0, .ref g), (1, .long b_4.1), (3, .int 0)]) [1, 2, 0] rfl ?_
          obtain ⟨b_5, hb_5, hR⟩ := yf_b hR
          have K_5 : X p l e (yR 7 300 600) s m args below meth c D A H0 11 Q [[(g, .inr (11, [.int 0, .ref gw, .ref gB, .ref gK, .ref gU, .ref gS, .int gbe, .int gwo, .long gta, .ref gn, .int glr, .int glc, .int gti, .int ggo, .ref gR, .int gch, .ref gD]))], [(gw, .inr (10, [.int gwr, .int gwk, .int gwc, .int gwg, .int gws, .ref gwa, .ref gwb]))], [(gwa, .inl (cy 3, gwan, .inr (.inr (.inr (.inr (yad gwad))))))], xg_rows gwad gwan (cy 1) gwak gwaG, [(gwb, .inl (cy 3, gwbn, .inr (.inr (.inr (.inr (yad gwbd))))))], xg_rows gwbd gwbn (cy 1) gwbk gwbG, [(gB, .inl (cy 4, 5, .inr (.inr (.inr (.inr (yad gBd))))))], xg_rows gBd 5 (cy 2) 5 gBG, [(gK, .inl (cy 4, 5, .inr (.inr (.inr (.inr (yad gKd))))))], xg_rows gKd 5 (cy 2) 5 gKG, [(gU, .inl (cy 3, 5, .inr (.inr (.inr (.inr (yad gUd))))))], xg_rows gUd 5 (cy 1) 5 gUG, [(gS, .inl (cy 3, 5, .inr (.inr (.inr (.inr (yad gSd))))))], xg_rows gSd 5 (cy 1) 5 gSG, [(gR, .inl (cy 3, gRn, .inr (.inr (.inr (.inr (yad gRd))))))], xg_rows gRd gRn (cy 1) gRk gRG, [(gn, .inr (10, [.int gnr, .int gnk, .int gnc, .int gng, .int gns, .ref gna, .ref gnb]))], [(gna, .inl (cy 3, gnan, .inr (.inr (.inr (.inr (yad gnad))))))], xg_rows gnad gnan (cy 1) gnak gnaG, [(gnb, .inl (cy 3, gnbn, .inr (.inr (.inr (.inr (yad gnbd))))))], xg_rows gnbd gnbn (cy 1) gnbk gnbG] b_5.2.2.1 b_5.2.2.2 [(0, .ref g), (1, .long b_5.1)] 243 [] := by
            obtain ⟨g_6, hR⟩ := yf_g hR
            refine xr_lload_n (n := 244) (j := 1) C dX9_digest_243 rfl rfl ?_
            refine xr_aload_n (n := 245) (j := 0) C dX9_digest_244 rfl rfl ?_
            obtain ⟨x_7, hx_7, hR⟩ := yf_b hR
            obtain ⟨g_8, hR⟩ := yf_g hR
            refine xr_callVp (n := 248) (As := []) (rest := [.long b_5.1]) C (kX9_savedNow_r l D cy (g := g) (gth := 0) (gw := gw) (gB := gB) (gK := gK) (gU := gU) (gS := gS) (gbe := gbe) (gwo := gwo) (gta := gta) (gn := gn) (glr := glr) (glc := glc) (gti := gti) (ggo := ggo) (gR := gR) (gch := gch) (gD := gD) (gwr := gwr) (gwk := gwk) (gwc := gwc) (gwg := gwg) (gws := gws) (gwa := gwa) (gwb := gwb) (gwad := gwad) (gwan := gwan) (gwak := gwak) (gwaG := gwaG) (gwbd := gwbd) (gwbn := gwbn) (gwbk := gwbk) (gwbG := gwbG) (gKd := gKd) (gKG := gKG) hx_7) mX9_savedNow u_1572 u_1574 u_53 0 rfl rfl 21 [0, 1, 2, 3, 4, 5, 8, 9] [6, 7, 10, 11, 12, 13, 14, 15, 16, 17, 18, 19, 20] rfl (by decide +kernel) rfl rfl rfl rfl (Nat.le_of_ble_eq_true rfl) (Nat.le_of_ble_eq_true rfl) (Nat.le_of_ble_eq_true rfl) g_8.1 g_8.2 dX9_digest_245 rfl (fun _ _ hp => hp.2) (fun v_9 hp_11 => ?_)
            obtain ⟨rfl, -⟩ := hp_11
            refine xr_st (st' := [.int x_7, .long b_5.1]) rfl ?_
            refine xr_i2l (n := 249) C dX9_digest_248 rfl ?_
            obtain ⟨x_12, hx_12, hR⟩ := yf_b hR
            refine xr_callSp (n := 252) (As := [.long b_5.1, .long x_7.toInt64]) (rest := []) C (kX9_add l D cy (i1 := b_5.1) (i2 := x_7.toInt64) hx_12) mX9_add u_1593 u_1594 21 [] [0, 1, 2, 3, 4, 5, 6, 7, 8, 9, 10, 11, 12, 13, 14, 15, 16, 17, 18, 19, 20] rfl (by decide +kernel) rfl rfl rfl rfl (Nat.le_of_ble_eq_true rfl) (Nat.le_of_ble_eq_true rfl) (Nat.le_of_ble_eq_true rfl) g_8.1 g_8.2 dX9_digest_249 rfl (fun _ _ hp => hp.2) (fun v_13 hp_15 => ?_)
            obtain ⟨rfl, -⟩ := hp_15
            refine xr_st (st' := [.long x_12]) rfl ?_
            refine xr_lstore_n (n := 253) C [(1, .long x_12), (0, .ref g)] dX9_digest_252 (by decide) rfl rfl ?_
            refine xr_lload_n (n := 254) (j := 0) C dX9_digest_253 rfl rfl ?_
            refine xr_aload_n (n := 255) (j := 1) C dX9_digest_254 rfl rfl ?_
            obtain ⟨x_16, hx_16, hR⟩ := yf_b hR
            obtain ⟨g_17, hR⟩ := yf_g hR
            refine xr_callVp (n := 258) (As := []) (rest := [.long x_12]) C (kX9_isWhole_r l D cy (g := g) (gth := 0) (gw := gw) (gB := gB) (gK := gK) (gU := gU) (gS := gS) (gbe := gbe) (gwo := gwo) (gta := gta) (gn := gn) (glr := glr) (glc := glc) (gti := gti) (ggo := ggo) (gR := gR) (gch := gch) (gD := gD) (gwr := gwr) (gwk := gwk) (gwc := gwc) (gwg := gwg) (gws := gws) (gwa := gwa) (gwb := gwb) (gwad := gwad) (gwan := gwan) (gwak := gwak) (gwaG := gwaG) (gwbd := gwbd) (gwbn := gwbn) (gwbk := gwbk) (gwbG := gwbG) (gBd := gBd) (gBG := gBG) (gKd := gKd) (gKG := gKG) (gUd := gUd) (gUG := gUG) (gnr := gnr) (gnk := gnk) (gnc := gnc) (gng := gng) (gns := gns) (gna := gna) (gnb := gnb) (gnad := gnad) (gnan := gnan) (gnak := gnak) (gnaG := gnaG) (gnbd := gnbd) (gnbn := gnbn) (gnbk := gnbk) (gnbG := gnbG) hx_16) mX9_isWhole u_1580 u_1582 u_54 0 rfl rfl 21 [0, 1, 2, 3, 4, 5, 6, 7, 8, 9, 10, 11, 16, 17, 18, 19, 20] [12, 13, 14, 15] rfl (by decide +kernel) rfl rfl rfl rfl (Nat.le_of_ble_eq_true rfl) (Nat.le_of_ble_eq_true rfl) (Nat.le_of_ble_eq_true rfl) g_17.1 g_17.2 dX9_digest_255 rfl (fun _ _ hp => hp.2) (fun v_18 hp_20 => ?_)
            obtain ⟨rfl, -⟩ := hp_20
            refine xr_st (st' := [.int x_16, .long x_12]) rfl ?_
            obtain ⟨x_21, hx_21, hR⟩ := yf_b hR
            refine xr_callSp (n := 261) (As := [.int x_16]) (rest := [.long x_12]) C (kX9_one l D cy (i1 := x_16) hx_21) mX9_one u_1312 u_1313 21 [] [0, 1, 2, 3, 4, 5, 6, 7, 8, 9, 10, 11, 12, 13, 14, 15, 16, 17, 18, 19, 20] rfl (by decide +kernel) rfl rfl rfl rfl (Nat.le_of_ble_eq_true rfl) (Nat.le_of_ble_eq_true rfl) (Nat.le_of_ble_eq_true rfl) g_17.1 g_17.2 dX9_digest_258 rfl (fun _ _ hp => hp.2) (fun v_22 hp_24 => ?_)
            obtain ⟨rfl, -⟩ := hp_24
            refine xr_st (st' := [.int x_21, .long x_12]) rfl ?_
            refine xr_i2l (n := 262) C dX9_digest_261 rfl ?_
            obtain ⟨x_25, hx_25, hR⟩ := yf_b hR
            refine xr_callSp (n := 265) (As := [.long x_12, .long x_21.toInt64]) (rest := []) C (kX9_add l D cy (i1 := x_12) (i2 := x_21.toInt64) hx_25) mX9_add u_1593 u_1594 21 [] [0, 1, 2, 3, 4, 5, 6, 7, 8, 9, 10, 11, 12, 13, 14, 15, 16, 17, 18, 19, 20] rfl (by decide +kernel) rfl rfl rfl rfl (Nat.le_of_ble_eq_true rfl) (Nat.le_of_ble_eq_true rfl) (Nat.le_of_ble_eq_true rfl) g_17.1 g_17.2 dX9_digest_262 rfl (fun _ _ hp => hp.2) (fun v_26 hp_28 => ?_)
            obtain ⟨rfl, -⟩ := hp_28
            refine xr_st (st' := [.long x_25]) rfl ?_
            obtain rfl := Option.some.inj hR
            exact ret x_25 ⟨rfl, rfl⟩ g_17.1 g_17.2 dX9_digest_265
          refine y_loop (P := fun (s_5 : Int64 × Int32 × Nat × Nat) => X p l e (yR 7 300 600) s m args below meth c D A H0 11 Q [[(g, .inr (11, [.int 0, .ref gw, .ref gB, .ref gK, .ref gU, .ref gS, .int gbe, .int gwo, .long gta, .ref gn, .int glr, .int glc, .int gti, .int ggo, .ref gR, .int gch, .ref gD]))], [(gw, .inr (10, [.int gwr, .int gwk, .int gwc, .int gwg, .int gws, .ref gwa, .ref gwb]))], [(gwa, .inl (cy 3, gwan, .inr (.inr (.inr (.inr (yad gwad))))))], xg_rows gwad gwan (cy 1) gwak gwaG, [(gwb, .inl (cy 3, gwbn, .inr (.inr (.inr (.inr (yad gwbd))))))], xg_rows gwbd gwbn (cy 1) gwbk gwbG, [(gB, .inl (cy 4, 5, .inr (.inr (.inr (.inr (yad gBd))))))], xg_rows gBd 5 (cy 2) 5 gBG, [(gK, .inl (cy 4, 5, .inr (.inr (.inr (.inr (yad gKd))))))], xg_rows gKd 5 (cy 2) 5 gKG, [(gU, .inl (cy 3, 5, .inr (.inr (.inr (.inr (yad gUd))))))], xg_rows gUd 5 (cy 1) 5 gUG, [(gS, .inl (cy 3, 5, .inr (.inr (.inr (.inr (yad gSd))))))], xg_rows gSd 5 (cy 1) 5 gSG, [(gR, .inl (cy 3, gRn, .inr (.inr (.inr (.inr (yad gRd))))))], xg_rows gRd gRn (cy 1) gRk gRG, [(gn, .inr (10, [.int gnr, .int gnk, .int gnc, .int gng, .int gns, .ref gna, .ref gnb]))], [(gna, .inl (cy 3, gnan, .inr (.inr (.inr (.inr (yad gnad))))))], xg_rows gnad gnan (cy 1) gnak gnaG, [(gnb, .inl (cy 3, gnbn, .inr (.inr (.inr (.inr (yad gnbd))))))], xg_rows gnbd gnbn (cy 1) gnbk gnbG] s_5.2.2.1 s_5.2.2.2 [(0, .ref g), (1, .long s_5.1), (3, .int s_5.2.1)] 221 []) ?_ _ (b_4.1, 0, 0, 0) hb_5
          intro s_5 o_5 ho_5 hk_5 hx_5
          obtain ⟨g_29, ho_5⟩ := yf_g ho_5
          refine xr_iload_n (n := 222) (j := 2) C dX9_digest_221 rfl rfl ?_
          refine xr_iconst (n := 223) (v := 5) C dX9_digest_222 rfl rfl ?_
          refine xr_icmp_ge (tgt := 243) (n := 226) C dX9_digest_223 rfl rfl (fun c_30 => ?_) (fun c_30 => ?_)
          · replace ho_5 := yf_t c_30 ho_5
            refine xr_lv (lv' := [(0, .ref g), (1, .long s_5.1)]) [0, 1] rfl ?_
            have e_31 := hx_5 _ (Option.some.inj ho_5).symm
            subst e_31
            exact K_5
          · replace ho_5 := yf_f c_30 ho_5
            refine xr_lload_n (n := 227) (j := 1) C dX9_digest_226 rfl rfl ?_
            refine xr_aload_n (n := 228) (j := 0) C dX9_digest_227 rfl rfl ?_
            refine xr_iload_n (n := 229) (j := 2) C dX9_digest_228 rfl rfl ?_
            obtain ⟨x_32, hx_32, ho_5⟩ := yf_b ho_5
            obtain ⟨g_33, ho_5⟩ := yf_g ho_5
            refine xr_callVp (n := 232) (As := [.int s_5.2.1]) (rest := [.long s_5.1]) C (kX9_bestTold_r l D cy (g := g) (gth := 0) (gw := gw) (gB := gB) (gK := gK) (gU := gU) (gS := gS) (gbe := gbe) (gwo := gwo) (gta := gta) (gn := gn) (glr := glr) (glc := glc) (gti := gti) (ggo := ggo) (gR := gR) (gch := gch) (gD := gD) (gwr := gwr) (gwk := gwk) (gwc := gwc) (gwg := gwg) (gws := gws) (gwa := gwa) (gwb := gwb) (gwad := gwad) (gwan := gwan) (gwak := gwak) (gwaG := gwaG) (gwbd := gwbd) (gwbn := gwbn) (gwbk := gwbk) (gwbG := gwbG) (gKd := gKd) (gKG := gKG) (i1 := s_5.2.1) hx_32) mX9_bestTold u_1564 u_1566 u_52 0 rfl rfl 21 [0, 1, 2, 3, 4, 5, 8, 9] [6, 7, 10, 11, 12, 13, 14, 15, 16, 17, 18, 19, 20] rfl (by decide +kernel) rfl rfl rfl rfl (Nat.le_of_ble_eq_true rfl) (Nat.le_of_ble_eq_true rfl) (Nat.le_of_ble_eq_true rfl) g_33.1 g_33.2 dX9_digest_229 rfl (fun _ _ hp => hp.2) (fun v_34 hp_36 => ?_)
            obtain ⟨rfl, -⟩ := hp_36
            refine xr_st (st' := [.int x_32, .long s_5.1]) rfl ?_
            refine xr_i2l (n := 233) C dX9_digest_232 rfl ?_
            obtain ⟨x_37, hx_37, ho_5⟩ := yf_b ho_5
            refine xr_callSp (n := 236) (As := [.long s_5.1, .long x_32.toInt64]) (rest := []) C (kX9_add l D cy (i1 := s_5.1) (i2 := x_32.toInt64) hx_37) mX9_add u_1593 u_1594 21 [] [0, 1, 2, 3, 4, 5, 6, 7, 8, 9, 10, 11, 12, 13, 14, 15, 16, 17, 18, 19, 20] rfl (by decide +kernel) rfl rfl rfl rfl (Nat.le_of_ble_eq_true rfl) (Nat.le_of_ble_eq_true rfl) (Nat.le_of_ble_eq_true rfl) g_33.1 g_33.2 dX9_digest_233 rfl (fun _ _ hp => hp.2) (fun v_38 hp_40 => ?_)
            obtain ⟨rfl, -⟩ := hp_40
            refine xr_st (st' := [.long x_37]) rfl ?_
            refine xr_lstore_n (n := 237) C [(1, .long x_37), (0, .ref g), (3, .int s_5.2.1)] dX9_digest_236 (by decide) rfl rfl ?_
            refine xr_iinc (j := 2) (v := s_5.2.1 + 1) (n := 240) C [(3, .int (s_5.2.1 + 1)), (1, .long x_37), (0, .ref g)] dX9_digest_237 rfl rfl (by decide) rfl rfl ?_
            refine xr_goto (tgt := 221) C dX9_digest_240 rfl ?_
            refine xr_lv (lv' := [(0, .ref g), (1, .long x_37), (3, .int (s_5.2.1 + 1))]) [2, 1, 0] rfl ?_
            exact hk_5 (x_37, s_5.2.1 + 1, s_5.2.2.1 + 30, s_5.2.2.2 + 60) (Option.some.inj ho_5).symm
        refine y_loop (P := fun (s_4 : Int64 × Int32) => X p l e (yR 7 300 600) s m args below meth c D A H0 11 Q [[(g, .inr (11, [.int 0, .ref gw, .ref gB, .ref gK, .ref gU, .ref gS, .int gbe, .int gwo, .long gta, .ref gn, .int glr, .int glc, .int gti, .int ggo, .ref gR, .int gch, .ref gD]))], [(gw, .inr (10, [.int gwr, .int gwk, .int gwc, .int gwg, .int gws, .ref gwa, .ref gwb]))], [(gwa, .inl (cy 3, gwan, .inr (.inr (.inr (.inr (yad gwad))))))], xg_rows gwad gwan (cy 1) gwak gwaG, [(gwb, .inl (cy 3, gwbn, .inr (.inr (.inr (.inr (yad gwbd))))))], xg_rows gwbd gwbn (cy 1) gwbk gwbG, [(gB, .inl (cy 4, 5, .inr (.inr (.inr (.inr (yad gBd))))))], xg_rows gBd 5 (cy 2) 5 gBG, [(gK, .inl (cy 4, 5, .inr (.inr (.inr (.inr (yad gKd))))))], xg_rows gKd 5 (cy 2) 5 gKG, [(gU, .inl (cy 3, 5, .inr (.inr (.inr (.inr (yad gUd))))))], xg_rows gUd 5 (cy 1) 5 gUG, [(gS, .inl (cy 3, 5, .inr (.inr (.inr (.inr (yad gSd))))))], xg_rows gSd 5 (cy 1) 5 gSG, [(gR, .inl (cy 3, gRn, .inr (.inr (.inr (.inr (yad gRd))))))], xg_rows gRd gRn (cy 1) gRk gRG, [(gn, .inr (10, [.int gnr, .int gnk, .int gnc, .int gng, .int gns, .ref gna, .ref gnb]))], [(gna, .inl (cy 3, gnan, .inr (.inr (.inr (.inr (yad gnad))))))], xg_rows gnad gnan (cy 1) gnak gnaG, [(gnb, .inl (cy 3, gnbn, .inr (.inr (.inr (.inr (yad gnbd))))))], xg_rows gnbd gnbn (cy 1) gnbk gnbG] 0 0 [(0, .ref g), (1, .long s_4.1), (3, .int s_4.2)] 165 []) ?_ _ (b_3.1, 0) hb_4
        intro s_4 o_4 ho_4 hk_4 hx_4
        refine xr_iload_n (n := 166) (j := 2) C dX9_digest_165 rfl rfl ?_
        refine xr_aload_n (n := 167) (j := 0) C dX9_digest_166 rfl rfl ?_
        refine xr_get (n := 170) C 0 rfl rfl 1 (by decide) in_X9 u_1238 rfl (v := .ref gw) rfl dX9_digest_167 rfl ?_
        obtain ⟨x_41, hx_41, ho_4⟩ := yf_b ho_4
        refine xr_callVp (n := 173) (As := []) (rest := [.int s_4.2]) C (kX8_rows l D cy (w := gw) (wr := gwr) (wk := gwk) (wc := gwc) (wg := gwg) (ws := gws) (wa := gwa) (wb := gwb) hx_41) mX8_rows u_1384 u_1385 u_1386 1 rfl rfl 21 [1] [0, 2, 3, 4, 5, 6, 7, 8, 9, 10, 11, 12, 13, 14, 15, 16, 17, 18, 19, 20] rfl (by decide +kernel) rfl rfl rfl rfl (Nat.le_of_ble_eq_true rfl) (Nat.le_of_ble_eq_true rfl) (Nat.le_of_ble_eq_true rfl) (Nat.le_of_ble_eq_true rfl) (Nat.le_of_ble_eq_true rfl) dX9_digest_170 rfl (fun _ _ hp => hp.2) (fun v_42 hp_44 => ?_)
        obtain ⟨rfl, -⟩ := hp_44
        refine xr_st (st' := [.int x_41, .int s_4.2]) rfl ?_
        refine xr_icmp_ge (tgt := 219) (n := 176) C dX9_digest_173 rfl rfl (fun c_45 => ?_) (fun c_45 => ?_)
        · replace ho_4 := yf_t c_45 ho_4
          refine xr_lv (lv' := [(0, .ref g), (1, .long s_4.1)]) [0, 1] rfl ?_
          have e_46 := hx_4 _ (Option.some.inj ho_4).symm
          subst e_46
          exact K_4
        · replace ho_4 := yf_f c_45 ho_4
          refine xr_iconst (n := 177) (v := 0) C dX9_digest_176 rfl rfl ?_
          refine xr_istore (n := 179) C [(4, .int 0), (0, .ref g), (1, .long s_4.1), (3, .int s_4.2)] dX9_digest_177 (by decide) rfl rfl ?_
          refine xr_lv (lv' := [(0, .ref g), (1, .long s_4.1), (3, .int s_4.2), (4, .int 0)]) [1, 2, 3, 0] rfl ?_
          obtain ⟨b_47, hb_47, ho_4⟩ := yf_b ho_4
          have K_47 : X p l e (yR 7 300 600) s m args below meth c D A H0 11 Q [[(g, .inr (11, [.int 0, .ref gw, .ref gB, .ref gK, .ref gU, .ref gS, .int gbe, .int gwo, .long gta, .ref gn, .int glr, .int glc, .int gti, .int ggo, .ref gR, .int gch, .ref gD]))], [(gw, .inr (10, [.int gwr, .int gwk, .int gwc, .int gwg, .int gws, .ref gwa, .ref gwb]))], [(gwa, .inl (cy 3, gwan, .inr (.inr (.inr (.inr (yad gwad))))))], xg_rows gwad gwan (cy 1) gwak gwaG, [(gwb, .inl (cy 3, gwbn, .inr (.inr (.inr (.inr (yad gwbd))))))], xg_rows gwbd gwbn (cy 1) gwbk gwbG, [(gB, .inl (cy 4, 5, .inr (.inr (.inr (.inr (yad gBd))))))], xg_rows gBd 5 (cy 2) 5 gBG, [(gK, .inl (cy 4, 5, .inr (.inr (.inr (.inr (yad gKd))))))], xg_rows gKd 5 (cy 2) 5 gKG, [(gU, .inl (cy 3, 5, .inr (.inr (.inr (.inr (yad gUd))))))], xg_rows gUd 5 (cy 1) 5 gUG, [(gS, .inl (cy 3, 5, .inr (.inr (.inr (.inr (yad gSd))))))], xg_rows gSd 5 (cy 1) 5 gSG, [(gR, .inl (cy 3, gRn, .inr (.inr (.inr (.inr (yad gRd))))))], xg_rows gRd gRn (cy 1) gRk gRG, [(gn, .inr (10, [.int gnr, .int gnk, .int gnc, .int gng, .int gns, .ref gna, .ref gnb]))], [(gna, .inl (cy 3, gnan, .inr (.inr (.inr (.inr (yad gnad))))))], xg_rows gnad gnan (cy 1) gnak gnaG, [(gnb, .inl (cy 3, gnbn, .inr (.inr (.inr (.inr (yad gnbd))))))], xg_rows gnbd gnbn (cy 1) gnbk gnbG] 0 0 [(0, .ref g), (1, .long b_47.1), (3, .int s_4.2)] 213 [] := by
            refine xr_iinc (j := 2) (v := s_4.2 + 1) (n := 216) C [(3, .int (s_4.2 + 1)), (0, .ref g), (1, .long b_47.1)] dX9_digest_213 rfl rfl (by decide) rfl rfl ?_
            refine xr_goto (tgt := 165) C dX9_digest_216 rfl ?_
            refine xr_lv (lv' := [(0, .ref g), (1, .long b_47.1), (3, .int (s_4.2 + 1))]) [1, 2, 0] rfl ?_
            exact hk_4 (b_47.1, s_4.2 + 1) (Option.some.inj ho_4).symm
          refine y_loop (P := fun (s_47 : Int64 × Int32) => X p l e (yR 7 300 600) s m args below meth c D A H0 11 Q [[(g, .inr (11, [.int 0, .ref gw, .ref gB, .ref gK, .ref gU, .ref gS, .int gbe, .int gwo, .long gta, .ref gn, .int glr, .int glc, .int gti, .int ggo, .ref gR, .int gch, .ref gD]))], [(gw, .inr (10, [.int gwr, .int gwk, .int gwc, .int gwg, .int gws, .ref gwa, .ref gwb]))], [(gwa, .inl (cy 3, gwan, .inr (.inr (.inr (.inr (yad gwad))))))], xg_rows gwad gwan (cy 1) gwak gwaG, [(gwb, .inl (cy 3, gwbn, .inr (.inr (.inr (.inr (yad gwbd))))))], xg_rows gwbd gwbn (cy 1) gwbk gwbG, [(gB, .inl (cy 4, 5, .inr (.inr (.inr (.inr (yad gBd))))))], xg_rows gBd 5 (cy 2) 5 gBG, [(gK, .inl (cy 4, 5, .inr (.inr (.inr (.inr (yad gKd))))))], xg_rows gKd 5 (cy 2) 5 gKG, [(gU, .inl (cy 3, 5, .inr (.inr (.inr (.inr (yad gUd))))))], xg_rows gUd 5 (cy 1) 5 gUG, [(gS, .inl (cy 3, 5, .inr (.inr (.inr (.inr (yad gSd))))))], xg_rows gSd 5 (cy 1) 5 gSG, [(gR, .inl (cy 3, gRn, .inr (.inr (.inr (.inr (yad gRd))))))], xg_rows gRd gRn (cy 1) gRk gRG, [(gn, .inr (10, [.int gnr, .int gnk, .int gnc, .int gng, .int gns, .ref gna, .ref gnb]))], [(gna, .inl (cy 3, gnan, .inr (.inr (.inr (.inr (yad gnad))))))], xg_rows gnad gnan (cy 1) gnak gnaG, [(gnb, .inl (cy 3, gnbn, .inr (.inr (.inr (.inr (yad gnbd))))))], xg_rows gnbd gnbn (cy 1) gnbk gnbG] 0 0 [(0, .ref g), (1, .long s_47.1), (3, .int s_4.2), (4, .int s_47.2)] 179 []) ?_ _ (s_4.1, 0) hb_47
          intro s_47 o_47 ho_47 hk_47 hx_47
          refine xr_iload (n := 181) (j := 3) C dX9_digest_179 rfl rfl ?_
          refine xr_aload_n (n := 182) (j := 0) C dX9_digest_181 rfl rfl ?_
          refine xr_get (n := 185) C 0 rfl rfl 1 (by decide) in_X9 u_1238 rfl (v := .ref gw) rfl dX9_digest_182 rfl ?_
          obtain ⟨x_48, hx_48, ho_47⟩ := yf_b ho_47
          refine xr_callVp (n := 188) (As := []) (rest := [.int s_47.2]) C (kX8_columns l D cy (w := gw) (wr := gwr) (wk := gwk) (wc := gwc) (wg := gwg) (ws := gws) (wa := gwa) (wb := gwb) hx_48) mX8_columns u_1391 u_1392 u_1393 1 rfl rfl 21 [1] [0, 2, 3, 4, 5, 6, 7, 8, 9, 10, 11, 12, 13, 14, 15, 16, 17, 18, 19, 20] rfl (by decide +kernel) rfl rfl rfl rfl (Nat.le_of_ble_eq_true rfl) (Nat.le_of_ble_eq_true rfl) (Nat.le_of_ble_eq_true rfl) (Nat.le_of_ble_eq_true rfl) (Nat.le_of_ble_eq_true rfl) dX9_digest_185 rfl (fun _ _ hp => hp.2) (fun v_49 hp_51 => ?_)
          obtain ⟨rfl, -⟩ := hp_51
          refine xr_st (st' := [.int x_48, .int s_47.2]) rfl ?_
          refine xr_icmp_ge (tgt := 213) (n := 191) C dX9_digest_188 rfl rfl (fun c_52 => ?_) (fun c_52 => ?_)
          · replace ho_47 := yf_t c_52 ho_47
            refine xr_lv (lv' := [(0, .ref g), (1, .long s_47.1), (3, .int s_4.2)]) [0, 1, 2] rfl ?_
            have e_53 := hx_47 _ (Option.some.inj ho_47).symm
            subst e_53
            exact K_47
          · replace ho_47 := yf_f c_52 ho_47
            refine xr_lload_n (n := 192) (j := 1) C dX9_digest_191 rfl rfl ?_
            refine xr_aload_n (n := 193) (j := 0) C dX9_digest_192 rfl rfl ?_
            refine xr_get (n := 196) C 0 rfl rfl 1 (by decide) in_X9 u_1238 rfl (v := .ref gw) rfl dX9_digest_193 rfl ?_
            refine xr_iload_n (n := 197) (j := 2) C dX9_digest_196 rfl rfl ?_
            refine xr_iload (n := 199) (j := 3) C dX9_digest_197 rfl rfl ?_
            obtain ⟨x_54, hx_54, ho_47⟩ := yf_b ho_47
            refine xr_callVp (n := 202) (As := [.int s_4.2, .int s_47.2]) (rest := [.long s_47.1]) C (kX8_plain l D cy (w := gw) (wr := gwr) (wk := gwk) (wc := gwc) (wg := gwg) (ws := gws) (wa := gwa) (wb := gwb) (wad := gwad) (wan := gwan) (wak := gwak) (waG := gwaG) (wbd := gwbd) (wbn := gwbn) (wbk := gwbk) (wbG := gwbG) (i1 := s_4.2) (i2 := s_47.2) hx_54) mX8_plain u_1539 u_1540 u_1541 1 rfl rfl 21 [1, 2, 3, 4, 5] [0, 6, 7, 8, 9, 10, 11, 12, 13, 14, 15, 16, 17, 18, 19, 20] rfl (by decide +kernel) rfl rfl rfl rfl (Nat.le_of_ble_eq_true rfl) (Nat.le_of_ble_eq_true rfl) (Nat.le_of_ble_eq_true rfl) (Nat.le_of_ble_eq_true rfl) (Nat.le_of_ble_eq_true rfl) dX9_digest_199 rfl (fun _ _ hp => hp.2) (fun v_55 hp_57 => ?_)
            obtain ⟨rfl, -⟩ := hp_57
            refine xr_st (st' := [.int x_54, .long s_47.1]) rfl ?_
            refine xr_i2l (n := 203) C dX9_digest_202 rfl ?_
            obtain ⟨x_58, hx_58, ho_47⟩ := yf_b ho_47
            refine xr_callSp (n := 206) (As := [.long s_47.1, .long x_54.toInt64]) (rest := []) C (kX9_add l D cy (i1 := s_47.1) (i2 := x_54.toInt64) hx_58) mX9_add u_1593 u_1594 21 [] [0, 1, 2, 3, 4, 5, 6, 7, 8, 9, 10, 11, 12, 13, 14, 15, 16, 17, 18, 19, 20] rfl (by decide +kernel) rfl rfl rfl rfl (Nat.le_of_ble_eq_true rfl) (Nat.le_of_ble_eq_true rfl) (Nat.le_of_ble_eq_true rfl) (Nat.le_of_ble_eq_true rfl) (Nat.le_of_ble_eq_true rfl) dX9_digest_203 rfl (fun _ _ hp => hp.2) (fun v_59 hp_61 => ?_)
            obtain ⟨rfl, -⟩ := hp_61
            refine xr_st (st' := [.long x_58]) rfl ?_
            refine xr_lstore_n (n := 207) C [(1, .long x_58), (0, .ref g), (3, .int s_4.2), (4, .int s_47.2)] dX9_digest_206 (by decide) rfl rfl ?_
            refine xr_iinc (j := 3) (v := s_47.2 + 1) (n := 210) C [(4, .int (s_47.2 + 1)), (1, .long x_58), (0, .ref g), (3, .int s_4.2)] dX9_digest_207 rfl rfl (by decide) rfl rfl ?_
            refine xr_goto (tgt := 179) C dX9_digest_210 rfl ?_
            refine xr_lv (lv' := [(0, .ref g), (1, .long x_58), (3, .int s_4.2), (4, .int (s_47.2 + 1))]) [2, 1, 3, 0] rfl ?_
            exact hk_47 (x_58, s_47.2 + 1) (Option.some.inj ho_47).symm
      refine y_loop (P := fun (s_3 : Int64 × Int32) => X p l e (yR 7 300 600) s m args below meth c D A H0 11 Q [[(g, .inr (11, [.int 0, .ref gw, .ref gB, .ref gK, .ref gU, .ref gS, .int gbe, .int gwo, .long gta, .ref gn, .int glr, .int glc, .int gti, .int ggo, .ref gR, .int gch, .ref gD]))], [(gw, .inr (10, [.int gwr, .int gwk, .int gwc, .int gwg, .int gws, .ref gwa, .ref gwb]))], [(gwa, .inl (cy 3, gwan, .inr (.inr (.inr (.inr (yad gwad))))))], xg_rows gwad gwan (cy 1) gwak gwaG, [(gwb, .inl (cy 3, gwbn, .inr (.inr (.inr (.inr (yad gwbd))))))], xg_rows gwbd gwbn (cy 1) gwbk gwbG, [(gB, .inl (cy 4, 5, .inr (.inr (.inr (.inr (yad gBd))))))], xg_rows gBd 5 (cy 2) 5 gBG, [(gK, .inl (cy 4, 5, .inr (.inr (.inr (.inr (yad gKd))))))], xg_rows gKd 5 (cy 2) 5 gKG, [(gU, .inl (cy 3, 5, .inr (.inr (.inr (.inr (yad gUd))))))], xg_rows gUd 5 (cy 1) 5 gUG, [(gS, .inl (cy 3, 5, .inr (.inr (.inr (.inr (yad gSd))))))], xg_rows gSd 5 (cy 1) 5 gSG, [(gR, .inl (cy 3, gRn, .inr (.inr (.inr (.inr (yad gRd))))))], xg_rows gRd gRn (cy 1) gRk gRG, [(gn, .inr (10, [.int gnr, .int gnk, .int gnc, .int gng, .int gns, .ref gna, .ref gnb]))], [(gna, .inl (cy 3, gnan, .inr (.inr (.inr (.inr (yad gnad))))))], xg_rows gnad gnan (cy 1) gnak gnaG, [(gnb, .inl (cy 3, gnbn, .inr (.inr (.inr (.inr (yad gnbd))))))], xg_rows gnbd gnbn (cy 1) gnbk gnbG] 0 0 [(0, .ref g), (1, .long s_3.1), (3, .ref gR), (4, .int (nI gRn)), (5, .int s_3.2)] 104 []) ?_ _ (b_2.1, 0) hb_3
      intro s_3 o_3 ho_3 hk_3 hx_3
      refine xr_iload (n := 106) (j := 4) C dX9_digest_104 rfl rfl ?_
      refine xr_iload (n := 108) (j := 3) C dX9_digest_106 rfl rfl ?_
      refine xr_icmp_ge (tgt := 163) (n := 111) C dX9_digest_108 rfl rfl (fun c_62 => ?_) (fun c_62 => ?_)
      · replace ho_3 := yf_t c_62 ho_3
        refine xr_lv (lv' := [(0, .ref g), (1, .long s_3.1)]) [0, 1] rfl ?_
        have e_63 := hx_3 _ (Option.some.inj ho_3).symm
        subst e_63
        exact K_3
      · replace ho_3 := yf_f c_62 ho_3
        refine xr_aload_n (n := 112) (j := 2) C dX9_digest_111 rfl rfl ?_
        refine xr_iload (n := 114) (j := 4) C dX9_digest_112 rfl rfl ?_
        obtain ⟨g_64, ho_3⟩ := yf_g ho_3
        refine xr_aald (n := 115) C 14 0 rfl 3 rfl rfl g_64 rfl dX9_digest_114 rfl ?_
        refine xr_astore (n := 117) C [(6, .ref (gRd s_3.2.toNatClampNeg)), (0, .ref g), (1, .long s_3.1), (3, .ref gR), (4, .int (nI gRn)), (5, .int s_3.2)] dX9_digest_115 (by decide) rfl rfl ?_
        refine xr_aload (n := 119) (j := 0) C dX9_digest_117 rfl rfl ?_
        refine xr_astore (n := 121) C [(7, .ref (gRd s_3.2.toNatClampNeg)), (6, .ref (gRd s_3.2.toNatClampNeg)), (0, .ref g), (1, .long s_3.1), (3, .ref gR), (4, .int (nI gRn)), (5, .int s_3.2)] dX9_digest_119 (by decide) rfl rfl ?_
        refine xr_aload (n := 123) (j := 0) C dX9_digest_121 rfl rfl ?_
        refine xr_aleng (n := 124) C 15 1 rfl s_3.2.toNatClampNeg (ylt g_64) rfl dX9_digest_123 rfl ?_
        refine xr_istore (n := 126) C [(8, .int (nI gRk)), (7, .ref (gRd s_3.2.toNatClampNeg)), (6, .ref (gRd s_3.2.toNatClampNeg)), (0, .ref g), (1, .long s_3.1), (3, .ref gR), (4, .int (nI gRn)), (5, .int s_3.2)] dX9_digest_124 (by decide) rfl rfl ?_
        refine xr_iconst (n := 127) (v := 0) C dX9_digest_126 rfl rfl ?_
        refine xr_istore (n := 129) C [(9, .int 0), (8, .int (nI gRk)), (7, .ref (gRd s_3.2.toNatClampNeg)), (6, .ref (gRd s_3.2.toNatClampNeg)), (0, .ref g), (1, .long s_3.1), (3, .ref gR), (4, .int (nI gRn)), (5, .int s_3.2)] dX9_digest_127 (by decide) rfl rfl ?_
        refine xr_lv (lv' := [(0, .ref g), (1, .long s_3.1), (3, .ref gR), (4, .int (nI gRn)), (5, .int s_3.2), (7, .ref (gRd s_3.2.toNatClampNeg)), (8, .int (nI gRk)), (9, .int 0)]) [4, 5, 6, 7, 8, 2, 1, 0] rfl ?_
        obtain ⟨b_65, hb_65, ho_3⟩ := yf_b ho_3
        have K_65 : X p l e (yR 7 300 600) s m args below meth c D A H0 11 Q [[(g, .inr (11, [.int 0, .ref gw, .ref gB, .ref gK, .ref gU, .ref gS, .int gbe, .int gwo, .long gta, .ref gn, .int glr, .int glc, .int gti, .int ggo, .ref gR, .int gch, .ref gD]))], [(gw, .inr (10, [.int gwr, .int gwk, .int gwc, .int gwg, .int gws, .ref gwa, .ref gwb]))], [(gwa, .inl (cy 3, gwan, .inr (.inr (.inr (.inr (yad gwad))))))], xg_rows gwad gwan (cy 1) gwak gwaG, [(gwb, .inl (cy 3, gwbn, .inr (.inr (.inr (.inr (yad gwbd))))))], xg_rows gwbd gwbn (cy 1) gwbk gwbG, [(gB, .inl (cy 4, 5, .inr (.inr (.inr (.inr (yad gBd))))))], xg_rows gBd 5 (cy 2) 5 gBG, [(gK, .inl (cy 4, 5, .inr (.inr (.inr (.inr (yad gKd))))))], xg_rows gKd 5 (cy 2) 5 gKG, [(gU, .inl (cy 3, 5, .inr (.inr (.inr (.inr (yad gUd))))))], xg_rows gUd 5 (cy 1) 5 gUG, [(gS, .inl (cy 3, 5, .inr (.inr (.inr (.inr (yad gSd))))))], xg_rows gSd 5 (cy 1) 5 gSG, [(gR, .inl (cy 3, gRn, .inr (.inr (.inr (.inr (yad gRd))))))], xg_rows gRd gRn (cy 1) gRk gRG, [(gn, .inr (10, [.int gnr, .int gnk, .int gnc, .int gng, .int gns, .ref gna, .ref gnb]))], [(gna, .inl (cy 3, gnan, .inr (.inr (.inr (.inr (yad gnad))))))], xg_rows gnad gnan (cy 1) gnak gnaG, [(gnb, .inl (cy 3, gnbn, .inr (.inr (.inr (.inr (yad gnbd))))))], xg_rows gnbd gnbn (cy 1) gnbk gnbG] 0 0 [(0, .ref g), (1, .long b_65.1), (3, .ref gR), (4, .int (nI gRn)), (5, .int s_3.2)] 157 [] := by
          refine xr_iinc (j := 4) (v := s_3.2 + 1) (n := 160) C [(5, .int (s_3.2 + 1)), (0, .ref g), (1, .long b_65.1), (3, .ref gR), (4, .int (nI gRn))] dX9_digest_157 rfl rfl (by decide) rfl rfl ?_
          refine xr_goto (tgt := 104) C dX9_digest_160 rfl ?_
          refine xr_lv (lv' := [(0, .ref g), (1, .long b_65.1), (3, .ref gR), (4, .int (nI gRn)), (5, .int (s_3.2 + 1))]) [1, 2, 3, 4, 0] rfl ?_
          exact hk_3 (b_65.1, s_3.2 + 1) (Option.some.inj ho_3).symm
        refine y_loop (P := fun (s_65 : Int64 × Int32) => X p l e (yR 7 300 600) s m args below meth c D A H0 11 Q [[(g, .inr (11, [.int 0, .ref gw, .ref gB, .ref gK, .ref gU, .ref gS, .int gbe, .int gwo, .long gta, .ref gn, .int glr, .int glc, .int gti, .int ggo, .ref gR, .int gch, .ref gD]))], [(gw, .inr (10, [.int gwr, .int gwk, .int gwc, .int gwg, .int gws, .ref gwa, .ref gwb]))], [(gwa, .inl (cy 3, gwan, .inr (.inr (.inr (.inr (yad gwad))))))], xg_rows gwad gwan (cy 1) gwak gwaG, [(gwb, .inl (cy 3, gwbn, .inr (.inr (.inr (.inr (yad gwbd))))))], xg_rows gwbd gwbn (cy 1) gwbk gwbG, [(gB, .inl (cy 4, 5, .inr (.inr (.inr (.inr (yad gBd))))))], xg_rows gBd 5 (cy 2) 5 gBG, [(gK, .inl (cy 4, 5, .inr (.inr (.inr (.inr (yad gKd))))))], xg_rows gKd 5 (cy 2) 5 gKG, [(gU, .inl (cy 3, 5, .inr (.inr (.inr (.inr (yad gUd))))))], xg_rows gUd 5 (cy 1) 5 gUG, [(gS, .inl (cy 3, 5, .inr (.inr (.inr (.inr (yad gSd))))))], xg_rows gSd 5 (cy 1) 5 gSG, [(gR, .inl (cy 3, gRn, .inr (.inr (.inr (.inr (yad gRd))))))], xg_rows gRd gRn (cy 1) gRk gRG, [(gn, .inr (10, [.int gnr, .int gnk, .int gnc, .int gng, .int gns, .ref gna, .ref gnb]))], [(gna, .inl (cy 3, gnan, .inr (.inr (.inr (.inr (yad gnad))))))], xg_rows gnad gnan (cy 1) gnak gnaG, [(gnb, .inl (cy 3, gnbn, .inr (.inr (.inr (.inr (yad gnbd))))))], xg_rows gnbd gnbn (cy 1) gnbk gnbG] 0 0 [(0, .ref g), (1, .long s_65.1), (3, .ref gR), (4, .int (nI gRn)), (5, .int s_3.2), (7, .ref (gRd s_3.2.toNatClampNeg)), (8, .int (nI gRk)), (9, .int s_65.2)] 129 []) ?_ _ (s_3.1, 0) hb_65
        intro s_65 o_65 ho_65 hk_65 hx_65
        refine xr_iload (n := 131) (j := 7) C dX9_digest_129 rfl rfl ?_
        refine xr_iload (n := 133) (j := 6) C dX9_digest_131 rfl rfl ?_
        refine xr_icmp_ge (tgt := 157) (n := 136) C dX9_digest_133 rfl rfl (fun c_66 => ?_) (fun c_66 => ?_)
        · replace ho_65 := yf_t c_66 ho_65
          refine xr_lv (lv' := [(0, .ref g), (1, .long s_65.1), (3, .ref gR), (4, .int (nI gRn)), (5, .int s_3.2)]) [0, 1, 2, 3, 4] rfl ?_
          have e_67 := hx_65 _ (Option.some.inj ho_65).symm
          subst e_67
          exact K_65
        · replace ho_65 := yf_f c_66 ho_65
          refine xr_aload (n := 138) (j := 5) C dX9_digest_136 rfl rfl ?_
          refine xr_iload (n := 140) (j := 7) C dX9_digest_138 rfl rfl ?_
          obtain ⟨g_68, ho_65⟩ := yf_g ho_65
          refine xr_ialdg (n := 141) C 15 rfl s_3.2.toNatClampNeg (ylt g_64) g_68 dX9_digest_140 rfl ?_
          obtain ⟨y_69, ey_69, ho_65⟩ := yf_l ho_65
          refine xr_topI ey_69 ?_
          refine xr_istore (n := 143) C [(10, .int y_69), (0, .ref g), (1, .long s_65.1), (3, .ref gR), (4, .int (nI gRn)), (5, .int s_3.2), (7, .ref (gRd s_3.2.toNatClampNeg)), (8, .int (nI gRk)), (9, .int s_65.2)] dX9_digest_141 (by decide) rfl rfl ?_
          refine xr_lload_n (n := 144) (j := 2) C dX9_digest_143 rfl rfl ?_
          refine xr_iload (n := 146) (j := 0) C dX9_digest_144 rfl rfl ?_
          refine xr_i2l (n := 147) C dX9_digest_146 rfl ?_
          obtain ⟨x_70, hx_70, ho_65⟩ := yf_b ho_65
          refine xr_callSp (n := 150) (As := [.long s_65.1, .long y_69.toInt64]) (rest := []) C (kX9_add l D cy (i1 := s_65.1) (i2 := y_69.toInt64) hx_70) mX9_add u_1593 u_1594 21 [] [0, 1, 2, 3, 4, 5, 6, 7, 8, 9, 10, 11, 12, 13, 14, 15, 16, 17, 18, 19, 20] rfl (by decide +kernel) rfl rfl rfl rfl (Nat.le_of_ble_eq_true rfl) (Nat.le_of_ble_eq_true rfl) (Nat.le_of_ble_eq_true rfl) (Nat.le_of_ble_eq_true rfl) (Nat.le_of_ble_eq_true rfl) dX9_digest_147 rfl (fun _ _ hp => hp.2) (fun v_71 hp_73 => ?_)
          obtain ⟨rfl, -⟩ := hp_73
          refine xr_st (st' := [.long x_70]) rfl ?_
          refine xr_lstore_n (n := 151) C [(1, .long x_70), (10, .int y_69), (0, .ref g), (3, .ref gR), (4, .int (nI gRn)), (5, .int s_3.2), (7, .ref (gRd s_3.2.toNatClampNeg)), (8, .int (nI gRk)), (9, .int s_65.2)] dX9_digest_150 (by decide) rfl rfl ?_
          refine xr_iinc (j := 8) (v := s_65.2 + 1) (n := 154) C [(9, .int (s_65.2 + 1)), (1, .long x_70), (10, .int y_69), (0, .ref g), (3, .ref gR), (4, .int (nI gRn)), (5, .int s_3.2), (7, .ref (gRd s_3.2.toNatClampNeg)), (8, .int (nI gRk))] dX9_digest_151 rfl rfl (by decide) rfl rfl ?_
          refine xr_goto (tgt := 129) C dX9_digest_154 rfl ?_
          refine xr_lv (lv' := [(0, .ref g), (1, .long x_70), (3, .ref gR), (4, .int (nI gRn)), (5, .int s_3.2), (7, .ref (gRd s_3.2.toNatClampNeg)), (8, .int (nI gRk)), (9, .int (s_65.2 + 1))]) [3, 1, 4, 5, 6, 7, 8, 0] rfl ?_
          exact hk_65 (x_70, s_65.2 + 1) (Option.some.inj ho_65).symm
    refine y_loop (P := fun (s_2 : Int64 × Int32) => X p l e (yR 7 300 600) s m args below meth c D A H0 11 Q [[(g, .inr (11, [.int 0, .ref gw, .ref gB, .ref gK, .ref gU, .ref gS, .int gbe, .int gwo, .long gta, .ref gn, .int glr, .int glc, .int gti, .int ggo, .ref gR, .int gch, .ref gD]))], [(gw, .inr (10, [.int gwr, .int gwk, .int gwc, .int gwg, .int gws, .ref gwa, .ref gwb]))], [(gwa, .inl (cy 3, gwan, .inr (.inr (.inr (.inr (yad gwad))))))], xg_rows gwad gwan (cy 1) gwak gwaG, [(gwb, .inl (cy 3, gwbn, .inr (.inr (.inr (.inr (yad gwbd))))))], xg_rows gwbd gwbn (cy 1) gwbk gwbG, [(gB, .inl (cy 4, 5, .inr (.inr (.inr (.inr (yad gBd))))))], xg_rows gBd 5 (cy 2) 5 gBG, [(gK, .inl (cy 4, 5, .inr (.inr (.inr (.inr (yad gKd))))))], xg_rows gKd 5 (cy 2) 5 gKG, [(gU, .inl (cy 3, 5, .inr (.inr (.inr (.inr (yad gUd))))))], xg_rows gUd 5 (cy 1) 5 gUG, [(gS, .inl (cy 3, 5, .inr (.inr (.inr (.inr (yad gSd))))))], xg_rows gSd 5 (cy 1) 5 gSG, [(gR, .inl (cy 3, gRn, .inr (.inr (.inr (.inr (yad gRd))))))], xg_rows gRd gRn (cy 1) gRk gRG, [(gn, .inr (10, [.int gnr, .int gnk, .int gnc, .int gng, .int gns, .ref gna, .ref gnb]))], [(gna, .inl (cy 3, gnan, .inr (.inr (.inr (.inr (yad gnad))))))], xg_rows gnad gnan (cy 1) gnak gnaG, [(gnb, .inl (cy 3, gnbn, .inr (.inr (.inr (.inr (yad gnbd))))))], xg_rows gnbd gnbn (cy 1) gnbk gnbG] 0 0 [(0, .ref g), (1, .long s_2.1), (3, .int s_2.2)] 36 []) ?_ _ (b_1.1, 0) hb_2
    intro s_2 o_2 ho_2 hk_2 hx_2
    refine xr_iload_n (n := 37) (j := 2) C dX9_digest_36 rfl rfl ?_
    refine xr_iconst (n := 38) (v := 5) C dX9_digest_37 rfl rfl ?_
    refine xr_icmp_ge (tgt := 92) (n := 41) C dX9_digest_38 rfl rfl (fun c_74 => ?_) (fun c_74 => ?_)
    · replace ho_2 := yf_t c_74 ho_2
      refine xr_lv (lv' := [(0, .ref g), (1, .long s_2.1)]) [0, 1] rfl ?_
      have e_75 := hx_2 _ (Option.some.inj ho_2).symm
      subst e_75
      exact K_2
    · replace ho_2 := yf_f c_74 ho_2
      refine xr_iconst (n := 42) (v := 0) C dX9_digest_41 rfl rfl ?_
      refine xr_istore (n := 44) C [(4, .int 0), (0, .ref g), (1, .long s_2.1), (3, .int s_2.2)] dX9_digest_42 (by decide) rfl rfl ?_
      refine xr_lv (lv' := [(0, .ref g), (1, .long s_2.1), (3, .int s_2.2), (4, .int 0)]) [1, 2, 3, 0] rfl ?_
      obtain ⟨b_76, hb_76, ho_2⟩ := yf_b ho_2
      have K_76 : X p l e (yR 7 300 600) s m args below meth c D A H0 11 Q [[(g, .inr (11, [.int 0, .ref gw, .ref gB, .ref gK, .ref gU, .ref gS, .int gbe, .int gwo, .long gta, .ref gn, .int glr, .int glc, .int gti, .int ggo, .ref gR, .int gch, .ref gD]))], [(gw, .inr (10, [.int gwr, .int gwk, .int gwc, .int gwg, .int gws, .ref gwa, .ref gwb]))], [(gwa, .inl (cy 3, gwan, .inr (.inr (.inr (.inr (yad gwad))))))], xg_rows gwad gwan (cy 1) gwak gwaG, [(gwb, .inl (cy 3, gwbn, .inr (.inr (.inr (.inr (yad gwbd))))))], xg_rows gwbd gwbn (cy 1) gwbk gwbG, [(gB, .inl (cy 4, 5, .inr (.inr (.inr (.inr (yad gBd))))))], xg_rows gBd 5 (cy 2) 5 gBG, [(gK, .inl (cy 4, 5, .inr (.inr (.inr (.inr (yad gKd))))))], xg_rows gKd 5 (cy 2) 5 gKG, [(gU, .inl (cy 3, 5, .inr (.inr (.inr (.inr (yad gUd))))))], xg_rows gUd 5 (cy 1) 5 gUG, [(gS, .inl (cy 3, 5, .inr (.inr (.inr (.inr (yad gSd))))))], xg_rows gSd 5 (cy 1) 5 gSG, [(gR, .inl (cy 3, gRn, .inr (.inr (.inr (.inr (yad gRd))))))], xg_rows gRd gRn (cy 1) gRk gRG, [(gn, .inr (10, [.int gnr, .int gnk, .int gnc, .int gng, .int gns, .ref gna, .ref gnb]))], [(gna, .inl (cy 3, gnan, .inr (.inr (.inr (.inr (yad gnad))))))], xg_rows gnad gnan (cy 1) gnak gnaG, [(gnb, .inl (cy 3, gnbn, .inr (.inr (.inr (.inr (yad gnbd))))))], xg_rows gnbd gnbn (cy 1) gnbk gnbG] 0 0 [(0, .ref g), (1, .long b_76.1), (3, .int s_2.2)] 86 [] := by
        refine xr_iinc (j := 2) (v := s_2.2 + 1) (n := 89) C [(3, .int (s_2.2 + 1)), (0, .ref g), (1, .long b_76.1)] dX9_digest_86 rfl rfl (by decide) rfl rfl ?_
        refine xr_goto (tgt := 36) C dX9_digest_89 rfl ?_
        refine xr_lv (lv' := [(0, .ref g), (1, .long b_76.1), (3, .int (s_2.2 + 1))]) [1, 2, 0] rfl ?_
        exact hk_2 (b_76.1, s_2.2 + 1) (Option.some.inj ho_2).symm
      refine y_loop (P := fun (s_76 : Int64 × Int32) => X p l e (yR 7 300 600) s m args below meth c D A H0 11 Q [[(g, .inr (11, [.int 0, .ref gw, .ref gB, .ref gK, .ref gU, .ref gS, .int gbe, .int gwo, .long gta, .ref gn, .int glr, .int glc, .int gti, .int ggo, .ref gR, .int gch, .ref gD]))], [(gw, .inr (10, [.int gwr, .int gwk, .int gwc, .int gwg, .int gws, .ref gwa, .ref gwb]))], [(gwa, .inl (cy 3, gwan, .inr (.inr (.inr (.inr (yad gwad))))))], xg_rows gwad gwan (cy 1) gwak gwaG, [(gwb, .inl (cy 3, gwbn, .inr (.inr (.inr (.inr (yad gwbd))))))], xg_rows gwbd gwbn (cy 1) gwbk gwbG, [(gB, .inl (cy 4, 5, .inr (.inr (.inr (.inr (yad gBd))))))], xg_rows gBd 5 (cy 2) 5 gBG, [(gK, .inl (cy 4, 5, .inr (.inr (.inr (.inr (yad gKd))))))], xg_rows gKd 5 (cy 2) 5 gKG, [(gU, .inl (cy 3, 5, .inr (.inr (.inr (.inr (yad gUd))))))], xg_rows gUd 5 (cy 1) 5 gUG, [(gS, .inl (cy 3, 5, .inr (.inr (.inr (.inr (yad gSd))))))], xg_rows gSd 5 (cy 1) 5 gSG, [(gR, .inl (cy 3, gRn, .inr (.inr (.inr (.inr (yad gRd))))))], xg_rows gRd gRn (cy 1) gRk gRG, [(gn, .inr (10, [.int gnr, .int gnk, .int gnc, .int gng, .int gns, .ref gna, .ref gnb]))], [(gna, .inl (cy 3, gnan, .inr (.inr (.inr (.inr (yad gnad))))))], xg_rows gnad gnan (cy 1) gnak gnaG, [(gnb, .inl (cy 3, gnbn, .inr (.inr (.inr (.inr (yad gnbd))))))], xg_rows gnbd gnbn (cy 1) gnbk gnbG] 0 0 [(0, .ref g), (1, .long s_76.1), (3, .int s_2.2), (4, .int s_76.2)] 44 []) ?_ _ (s_2.1, 0) hb_76
      intro s_76 o_76 ho_76 hk_76 hx_76
      refine xr_iload (n := 46) (j := 3) C dX9_digest_44 rfl rfl ?_
      refine xr_iconst (n := 47) (v := 5) C dX9_digest_46 rfl rfl ?_
      refine xr_icmp_ge (tgt := 86) (n := 50) C dX9_digest_47 rfl rfl (fun c_77 => ?_) (fun c_77 => ?_)
      · replace ho_76 := yf_t c_77 ho_76
        refine xr_lv (lv' := [(0, .ref g), (1, .long s_76.1), (3, .int s_2.2)]) [0, 1, 2] rfl ?_
        have e_78 := hx_76 _ (Option.some.inj ho_76).symm
        subst e_78
        exact K_76
      · replace ho_76 := yf_f c_77 ho_76
        refine xr_iconst (n := 51) (v := 0) C dX9_digest_50 rfl rfl ?_
        refine xr_istore (n := 53) C [(5, .int 0), (0, .ref g), (1, .long s_76.1), (3, .int s_2.2), (4, .int s_76.2)] dX9_digest_51 (by decide) rfl rfl ?_
        refine xr_lv (lv' := [(0, .ref g), (1, .long s_76.1), (3, .int s_2.2), (4, .int s_76.2), (5, .int 0)]) [1, 2, 3, 4, 0] rfl ?_
        obtain ⟨b_79, hb_79, ho_76⟩ := yf_b ho_76
        have K_79 : X p l e (yR 7 300 600) s m args below meth c D A H0 11 Q [[(g, .inr (11, [.int 0, .ref gw, .ref gB, .ref gK, .ref gU, .ref gS, .int gbe, .int gwo, .long gta, .ref gn, .int glr, .int glc, .int gti, .int ggo, .ref gR, .int gch, .ref gD]))], [(gw, .inr (10, [.int gwr, .int gwk, .int gwc, .int gwg, .int gws, .ref gwa, .ref gwb]))], [(gwa, .inl (cy 3, gwan, .inr (.inr (.inr (.inr (yad gwad))))))], xg_rows gwad gwan (cy 1) gwak gwaG, [(gwb, .inl (cy 3, gwbn, .inr (.inr (.inr (.inr (yad gwbd))))))], xg_rows gwbd gwbn (cy 1) gwbk gwbG, [(gB, .inl (cy 4, 5, .inr (.inr (.inr (.inr (yad gBd))))))], xg_rows gBd 5 (cy 2) 5 gBG, [(gK, .inl (cy 4, 5, .inr (.inr (.inr (.inr (yad gKd))))))], xg_rows gKd 5 (cy 2) 5 gKG, [(gU, .inl (cy 3, 5, .inr (.inr (.inr (.inr (yad gUd))))))], xg_rows gUd 5 (cy 1) 5 gUG, [(gS, .inl (cy 3, 5, .inr (.inr (.inr (.inr (yad gSd))))))], xg_rows gSd 5 (cy 1) 5 gSG, [(gR, .inl (cy 3, gRn, .inr (.inr (.inr (.inr (yad gRd))))))], xg_rows gRd gRn (cy 1) gRk gRG, [(gn, .inr (10, [.int gnr, .int gnk, .int gnc, .int gng, .int gns, .ref gna, .ref gnb]))], [(gna, .inl (cy 3, gnan, .inr (.inr (.inr (.inr (yad gnad))))))], xg_rows gnad gnan (cy 1) gnak gnaG, [(gnb, .inl (cy 3, gnbn, .inr (.inr (.inr (.inr (yad gnbd))))))], xg_rows gnbd gnbn (cy 1) gnbk gnbG] 0 0 [(0, .ref g), (1, .long b_79.1), (3, .int s_2.2), (4, .int s_76.2)] 80 [] := by
          refine xr_iinc (j := 3) (v := s_76.2 + 1) (n := 83) C [(4, .int (s_76.2 + 1)), (0, .ref g), (1, .long b_79.1), (3, .int s_2.2)] dX9_digest_80 rfl rfl (by decide) rfl rfl ?_
          refine xr_goto (tgt := 44) C dX9_digest_83 rfl ?_
          refine xr_lv (lv' := [(0, .ref g), (1, .long b_79.1), (3, .int s_2.2), (4, .int (s_76.2 + 1))]) [1, 2, 3, 0] rfl ?_
          exact hk_76 (b_79.1, s_76.2 + 1) (Option.some.inj ho_76).symm
        refine y_loop (P := fun (s_79 : Int64 × Int32) => X p l e (yR 7 300 600) s m args below meth c D A H0 11 Q [[(g, .inr (11, [.int 0, .ref gw, .ref gB, .ref gK, .ref gU, .ref gS, .int gbe, .int gwo, .long gta, .ref gn, .int glr, .int glc, .int gti, .int ggo, .ref gR, .int gch, .ref gD]))], [(gw, .inr (10, [.int gwr, .int gwk, .int gwc, .int gwg, .int gws, .ref gwa, .ref gwb]))], [(gwa, .inl (cy 3, gwan, .inr (.inr (.inr (.inr (yad gwad))))))], xg_rows gwad gwan (cy 1) gwak gwaG, [(gwb, .inl (cy 3, gwbn, .inr (.inr (.inr (.inr (yad gwbd))))))], xg_rows gwbd gwbn (cy 1) gwbk gwbG, [(gB, .inl (cy 4, 5, .inr (.inr (.inr (.inr (yad gBd))))))], xg_rows gBd 5 (cy 2) 5 gBG, [(gK, .inl (cy 4, 5, .inr (.inr (.inr (.inr (yad gKd))))))], xg_rows gKd 5 (cy 2) 5 gKG, [(gU, .inl (cy 3, 5, .inr (.inr (.inr (.inr (yad gUd))))))], xg_rows gUd 5 (cy 1) 5 gUG, [(gS, .inl (cy 3, 5, .inr (.inr (.inr (.inr (yad gSd))))))], xg_rows gSd 5 (cy 1) 5 gSG, [(gR, .inl (cy 3, gRn, .inr (.inr (.inr (.inr (yad gRd))))))], xg_rows gRd gRn (cy 1) gRk gRG, [(gn, .inr (10, [.int gnr, .int gnk, .int gnc, .int gng, .int gns, .ref gna, .ref gnb]))], [(gna, .inl (cy 3, gnan, .inr (.inr (.inr (.inr (yad gnad))))))], xg_rows gnad gnan (cy 1) gnak gnaG, [(gnb, .inl (cy 3, gnbn, .inr (.inr (.inr (.inr (yad gnbd))))))], xg_rows gnbd gnbn (cy 1) gnbk gnbG] 0 0 [(0, .ref g), (1, .long s_79.1), (3, .int s_2.2), (4, .int s_76.2), (5, .int s_79.2)] 53 []) ?_ _ (s_76.1, 0) hb_79
        intro s_79 o_79 ho_79 hk_79 hx_79
        refine xr_iload (n := 55) (j := 4) C dX9_digest_53 rfl rfl ?_
        refine xr_iconst (n := 56) (v := 4) C dX9_digest_55 rfl rfl ?_
        refine xr_icmp_ge (tgt := 80) (n := 59) C dX9_digest_56 rfl rfl (fun c_80 => ?_) (fun c_80 => ?_)
        · replace ho_79 := yf_t c_80 ho_79
          refine xr_lv (lv' := [(0, .ref g), (1, .long s_79.1), (3, .int s_2.2), (4, .int s_76.2)]) [0, 1, 2, 3] rfl ?_
          have e_81 := hx_79 _ (Option.some.inj ho_79).symm
          subst e_81
          exact K_79
        · replace ho_79 := yf_f c_80 ho_79
          refine xr_lload_n (n := 60) (j := 1) C dX9_digest_59 rfl rfl ?_
          refine xr_aload_n (n := 61) (j := 0) C dX9_digest_60 rfl rfl ?_
          refine xr_iload_n (n := 62) (j := 2) C dX9_digest_61 rfl rfl ?_
          refine xr_iload (n := 64) (j := 3) C dX9_digest_62 rfl rfl ?_
          refine xr_iload (n := 66) (j := 4) C dX9_digest_64 rfl rfl ?_
          obtain ⟨x_82, hx_82, ho_79⟩ := yf_b ho_79
          refine xr_callVp (n := 69) (As := [.int s_2.2, .int s_76.2, .int s_79.2]) (rest := [.long s_79.1]) C (kX9_cellTold_r l D cy (g := g) (gth := 0) (gw := gw) (gB := gB) (gK := gK) (gU := gU) (gS := gS) (gbe := gbe) (gwo := gwo) (gta := gta) (gn := gn) (glr := glr) (glc := glc) (gti := gti) (ggo := ggo) (gR := gR) (gch := gch) (gD := gD) (gBd := gBd) (gBG := gBG) (gKd := gKd) (gKG := gKG) (gUd := gUd) (gUG := gUG) (gSd := gSd) (gSG := gSG) (gnr := gnr) (gnk := gnk) (gnc := gnc) (gng := gng) (gns := gns) (gna := gna) (gnb := gnb) (gnad := gnad) (gnan := gnan) (gnak := gnak) (gnaG := gnaG) (gnbd := gnbd) (gnbn := gnbn) (gnbk := gnbk) (gnbG := gnbG) (i1 := s_2.2) (i2 := s_76.2) (i3 := s_79.2) hx_82) mX9_cellTold u_1520 u_1522 u_50 0 rfl rfl 21 [0, 6, 7, 8, 9, 10, 11, 12, 13, 16, 17, 18, 19, 20] [1, 2, 3, 4, 5, 14, 15] rfl (by decide +kernel) rfl rfl rfl rfl (Nat.le_of_ble_eq_true rfl) (Nat.le_of_ble_eq_true rfl) (Nat.le_of_ble_eq_true rfl) (Nat.le_of_ble_eq_true rfl) (Nat.le_of_ble_eq_true rfl) dX9_digest_66 rfl (fun _ _ hp => hp.2) (fun v_83 hp_85 => ?_)
          obtain ⟨rfl, -⟩ := hp_85
          refine xr_st (st' := [.int x_82, .long s_79.1]) rfl ?_
          refine xr_i2l (n := 70) C dX9_digest_69 rfl ?_
          obtain ⟨x_86, hx_86, ho_79⟩ := yf_b ho_79
          refine xr_callSp (n := 73) (As := [.long s_79.1, .long x_82.toInt64]) (rest := []) C (kX9_add l D cy (i1 := s_79.1) (i2 := x_82.toInt64) hx_86) mX9_add u_1593 u_1594 21 [] [0, 1, 2, 3, 4, 5, 6, 7, 8, 9, 10, 11, 12, 13, 14, 15, 16, 17, 18, 19, 20] rfl (by decide +kernel) rfl rfl rfl rfl (Nat.le_of_ble_eq_true rfl) (Nat.le_of_ble_eq_true rfl) (Nat.le_of_ble_eq_true rfl) (Nat.le_of_ble_eq_true rfl) (Nat.le_of_ble_eq_true rfl) dX9_digest_70 rfl (fun _ _ hp => hp.2) (fun v_87 hp_89 => ?_)
          obtain ⟨rfl, -⟩ := hp_89
          refine xr_st (st' := [.long x_86]) rfl ?_
          refine xr_lstore_n (n := 74) C [(1, .long x_86), (0, .ref g), (3, .int s_2.2), (4, .int s_76.2), (5, .int s_79.2)] dX9_digest_73 (by decide) rfl rfl ?_
          refine xr_iinc (j := 4) (v := s_79.2 + 1) (n := 77) C [(5, .int (s_79.2 + 1)), (1, .long x_86), (0, .ref g), (3, .int s_2.2), (4, .int s_76.2)] dX9_digest_74 rfl rfl (by decide) rfl rfl ?_
          refine xr_goto (tgt := 53) C dX9_digest_77 rfl ?_
          refine xr_lv (lv' := [(0, .ref g), (1, .long x_86), (3, .int s_2.2), (4, .int s_76.2), (5, .int (s_79.2 + 1))]) [2, 1, 3, 4, 0] rfl ?_
          exact hk_79 (x_86, s_79.2 + 1) (Option.some.inj ho_79).symm
  refine y_loop (P := fun (s_1 : Int64 × Int32) => X p l e (yR 7 300 600) s m args below meth c D A H0 11 Q [[(g, .inr (11, [.int 0, .ref gw, .ref gB, .ref gK, .ref gU, .ref gS, .int gbe, .int gwo, .long gta, .ref gn, .int glr, .int glc, .int gti, .int ggo, .ref gR, .int gch, .ref gD]))], [(gw, .inr (10, [.int gwr, .int gwk, .int gwc, .int gwg, .int gws, .ref gwa, .ref gwb]))], [(gwa, .inl (cy 3, gwan, .inr (.inr (.inr (.inr (yad gwad))))))], xg_rows gwad gwan (cy 1) gwak gwaG, [(gwb, .inl (cy 3, gwbn, .inr (.inr (.inr (.inr (yad gwbd))))))], xg_rows gwbd gwbn (cy 1) gwbk gwbG, [(gB, .inl (cy 4, 5, .inr (.inr (.inr (.inr (yad gBd))))))], xg_rows gBd 5 (cy 2) 5 gBG, [(gK, .inl (cy 4, 5, .inr (.inr (.inr (.inr (yad gKd))))))], xg_rows gKd 5 (cy 2) 5 gKG, [(gU, .inl (cy 3, 5, .inr (.inr (.inr (.inr (yad gUd))))))], xg_rows gUd 5 (cy 1) 5 gUG, [(gS, .inl (cy 3, 5, .inr (.inr (.inr (.inr (yad gSd))))))], xg_rows gSd 5 (cy 1) 5 gSG, [(gR, .inl (cy 3, gRn, .inr (.inr (.inr (.inr (yad gRd))))))], xg_rows gRd gRn (cy 1) gRk gRG, [(gn, .inr (10, [.int gnr, .int gnk, .int gnc, .int gng, .int gns, .ref gna, .ref gnb]))], [(gna, .inl (cy 3, gnan, .inr (.inr (.inr (.inr (yad gnad))))))], xg_rows gnad gnan (cy 1) gnak gnaG, [(gnb, .inl (cy 3, gnbn, .inr (.inr (.inr (.inr (yad gnbd))))))], xg_rows gnbd gnbn (cy 1) gnbk gnbG] 0 0 [(0, .ref g), (1, .long s_1.1), (3, .int s_1.2)] 11 []) ?_ _ (5659, 0) hb_1
  intro s_1 o_1 ho_1 hk_1 hx_1
  refine xr_iload_n (n := 12) (j := 2) C dX9_digest_11 rfl rfl ?_
  refine xr_bipush (n := 14) (v := 16) C dX9_digest_12 rfl rfl ?_
  refine xr_icmp_ge (tgt := 34) (n := 17) C dX9_digest_14 rfl rfl (fun c_90 => ?_) (fun c_90 => ?_)
  · replace ho_1 := yf_t c_90 ho_1
    refine xr_lv (lv' := [(0, .ref g), (1, .long s_1.1)]) [0, 1] rfl ?_
    have e_91 := hx_1 _ (Option.some.inj ho_1).symm
    subst e_91
    exact K_1
  · replace ho_1 := yf_f c_90 ho_1
    refine xr_lload_n (n := 18) (j := 1) C dX9_digest_17 rfl rfl ?_
    refine xr_aload_n (n := 19) (j := 0) C dX9_digest_18 rfl rfl ?_
    refine xr_iload_n (n := 20) (j := 2) C dX9_digest_19 rfl rfl ?_
    obtain ⟨x_92, hx_92, ho_1⟩ := yf_b ho_1
    refine xr_callVp (n := 23) (As := [.int s_1.2]) (rest := [.long s_1.1]) C (kX9_meshTold_r l D cy (g := g) (gth := 0) (gw := gw) (gB := gB) (gK := gK) (gU := gU) (gS := gS) (gbe := gbe) (gwo := gwo) (gta := gta) (gn := gn) (glr := glr) (glc := glc) (gti := gti) (ggo := ggo) (gR := gR) (gch := gch) (gD := gD) (gwr := gwr) (gwk := gwk) (gwc := gwc) (gwg := gwg) (gws := gws) (gwa := gwa) (gwb := gwb) (gwad := gwad) (gwan := gwan) (gwak := gwak) (gwaG := gwaG) (gwbd := gwbd) (gwbn := gwbn) (gwbk := gwbk) (gwbG := gwbG) (gBd := gBd) (gBG := gBG) (gKd := gKd) (gKG := gKG) (gRd := gRd) (gRn := gRn) (gRk := gRk) (gRG := gRG) (gnr := gnr) (gnk := gnk) (gnc := gnc) (gng := gng) (gns := gns) (gna := gna) (gnb := gnb) (gnad := gnad) (gnan := gnan) (gnak := gnak) (gnaG := gnaG) (gnbd := gnbd) (gnbn := gnbn) (gnbk := gnbk) (gnbG := gnbG) (i1 := s_1.2) hx_92) mX9_meshTold u_1512 u_1514 u_49 0 rfl rfl 21 [0, 1, 2, 3, 4, 5, 6, 7, 8, 9, 14, 15, 16, 17, 18, 19, 20] [10, 11, 12, 13] rfl (by decide +kernel) rfl rfl rfl rfl (Nat.le_of_ble_eq_true rfl) (Nat.le_of_ble_eq_true rfl) (Nat.le_of_ble_eq_true rfl) (Nat.le_of_ble_eq_true rfl) (Nat.le_of_ble_eq_true rfl) dX9_digest_20 rfl (fun _ _ hp => hp.2) (fun v_93 hp_95 => ?_)
    obtain ⟨rfl, -⟩ := hp_95
    refine xr_st (st' := [.int x_92, .long s_1.1]) rfl ?_
    refine xr_i2l (n := 24) C dX9_digest_23 rfl ?_
    obtain ⟨x_96, hx_96, ho_1⟩ := yf_b ho_1
    refine xr_callSp (n := 27) (As := [.long s_1.1, .long x_92.toInt64]) (rest := []) C (kX9_add l D cy (i1 := s_1.1) (i2 := x_92.toInt64) hx_96) mX9_add u_1593 u_1594 21 [] [0, 1, 2, 3, 4, 5, 6, 7, 8, 9, 10, 11, 12, 13, 14, 15, 16, 17, 18, 19, 20] rfl (by decide +kernel) rfl rfl rfl rfl (Nat.le_of_ble_eq_true rfl) (Nat.le_of_ble_eq_true rfl) (Nat.le_of_ble_eq_true rfl) (Nat.le_of_ble_eq_true rfl) (Nat.le_of_ble_eq_true rfl) dX9_digest_24 rfl (fun _ _ hp => hp.2) (fun v_97 hp_99 => ?_)
    obtain ⟨rfl, -⟩ := hp_99
    refine xr_st (st' := [.long x_96]) rfl ?_
    refine xr_lstore_n (n := 28) C [(1, .long x_96), (0, .ref g), (3, .int s_1.2)] dX9_digest_27 (by decide) rfl rfl ?_
    refine xr_iinc (j := 2) (v := s_1.2 + 1) (n := 31) C [(3, .int (s_1.2 + 1)), (1, .long x_96), (0, .ref g)] dX9_digest_28 rfl rfl (by decide) rfl rfl ?_
    refine xr_goto (tgt := 11) C dX9_digest_31 rfl ?_
    refine xr_lv (lv' := [(0, .ref g), (1, .long x_96), (3, .int (s_1.2 + 1))]) [2, 1, 0] rfl ?_
    exact hk_1 (x_96, s_1.2 + 1) (Option.some.inj ho_1).symm
theorem dX9_init_0 : decode cX9_init 0 = .ok (.aload_n 0, 1) := by decide +kernel
theorem dX9_init_1 : decode cX9_init 1 = .ok (.invokespecial 7, 3) := by decide +kernel
theorem dX9_init_4 : decode cX9_init 4 = .ok (.aload_n 0, 1) := by decide +kernel
theorem dX9_init_5 : decode cX9_init 5 = .ok (.new 13, 3) := by decide +kernel
theorem dX9_init_8 : decode cX9_init 8 = .ok (.dup, 1) := by decide +kernel
theorem dX9_init_9 : decode cX9_init 9 = .ok (.invokespecial 15, 3) := by decide +kernel
theorem dX9_init_12 : decode cX9_init 12 = .ok (.putfield 16, 3) := by decide +kernel
theorem dX9_init_15 : decode cX9_init 15 = .ok (.aload_n 0, 1) := by decide +kernel
theorem dX9_init_16 : decode cX9_init 16 = .ok (.iconst 5, 1) := by decide +kernel
theorem dX9_init_17 : decode cX9_init 17 = .ok (.iconst 5, 1) := by decide +kernel
theorem dX9_init_18 : decode cX9_init 18 = .ok (.multianewarray 22 2, 4) := by decide +kernel
theorem dX9_init_22 : decode cX9_init 22 = .ok (.putfield 24, 3) := by decide +kernel
theorem dX9_init_25 : decode cX9_init 25 = .ok (.aload_n 0, 1) := by decide +kernel
theorem dX9_init_26 : decode cX9_init 26 = .ok (.iconst 5, 1) := by decide +kernel
theorem dX9_init_27 : decode cX9_init 27 = .ok (.iconst 5, 1) := by decide +kernel
theorem dX9_init_28 : decode cX9_init 28 = .ok (.multianewarray 22 2, 4) := by decide +kernel
theorem dX9_init_32 : decode cX9_init 32 = .ok (.putfield 27, 3) := by decide +kernel
theorem dX9_init_35 : decode cX9_init 35 = .ok (.aload_n 0, 1) := by decide +kernel
theorem dX9_init_36 : decode cX9_init 36 = .ok (.iconst 5, 1) := by decide +kernel
theorem dX9_init_37 : decode cX9_init 37 = .ok (.iconst 5, 1) := by decide +kernel
theorem dX9_init_38 : decode cX9_init 38 = .ok (.multianewarray 30 2, 4) := by decide +kernel
theorem dX9_init_42 : decode cX9_init 42 = .ok (.putfield 32, 3) := by decide +kernel
theorem dX9_init_45 : decode cX9_init 45 = .ok (.aload_n 0, 1) := by decide +kernel
theorem dX9_init_46 : decode cX9_init 46 = .ok (.iconst 5, 1) := by decide +kernel
theorem dX9_init_47 : decode cX9_init 47 = .ok (.iconst 5, 1) := by decide +kernel
theorem dX9_init_48 : decode cX9_init 48 = .ok (.multianewarray 30 2, 4) := by decide +kernel
theorem dX9_init_52 : decode cX9_init 52 = .ok (.putfield 35, 3) := by decide +kernel
theorem dX9_init_55 : decode cX9_init 55 = .ok (.aload_n 0, 1) := by decide +kernel
theorem dX9_init_56 : decode cX9_init 56 = .ok (.iconst 0, 1) := by decide +kernel
theorem dX9_init_57 : decode cX9_init 57 = .ok (.iconst 0, 1) := by decide +kernel
theorem dX9_init_58 : decode cX9_init 58 = .ok (.multianewarray 30 2, 4) := by decide +kernel
theorem dX9_init_62 : decode cX9_init 62 = .ok (.putfield 38, 3) := by decide +kernel
theorem dX9_init_65 : decode cX9_init 65 = .ok (.aload_n 0, 1) := by decide +kernel
theorem dX9_init_66 : decode cX9_init 66 = .ok (.iconst 0, 1) := by decide +kernel
theorem dX9_init_67 : decode cX9_init 67 = .ok (.iconst 0, 1) := by decide +kernel
theorem dX9_init_68 : decode cX9_init 68 = .ok (.multianewarray 30 2, 4) := by decide +kernel
theorem dX9_init_72 : decode cX9_init 72 = .ok (.putfield 41, 3) := by decide +kernel
theorem dX9_init_75 : decode cX9_init 75 = .ok (.aload_n 0, 1) := by decide +kernel
theorem dX9_init_76 : decode cX9_init 76 = .ok (.iconst 2, 1) := by decide +kernel
theorem dX9_init_77 : decode cX9_init 77 = .ok (.iconst 2, 1) := by decide +kernel
theorem dX9_init_78 : decode cX9_init 78 = .ok (.iconst 2, 1) := by decide +kernel
theorem dX9_init_79 : decode cX9_init 79 = .ok (.invokevirtual 44, 3) := by decide +kernel
theorem dX9_init_82 : decode cX9_init 82 = .ok (.return_, 1) := by decide +kernel
def fX9_init  : Option (Int32 × Int32 × Int32 × Int64 × Int32 × Int32 × Int32 × Int32 × Int32 × Int32 × Int32 × Int32 × Int32 × Int32 × Nat × Nat × (Nat → Nat → Int32) × Nat × Nat × (Nat → Nat → Int32)) := ((fX8_init).bind fun x_2 => ((fX9_lay_0 2 2 2).bind fun x_18 => some (0, 0, 0, 0, 0, 0, 0, 0, 0, x_18.1, x_18.2.1, x_18.2.2.1, 0, 0, x_18.2.2.2.1, x_18.2.2.2.2.1, x_18.2.2.2.2.2.1, x_18.2.2.2.2.2.2.1, x_18.2.2.2.2.2.2.2.1, x_18.2.2.2.2.2.2.2.2)))
abbrev hX9_init : Cond := .code yX9_init cX9_init 1 none
theorem mX9_init : yM yX9_init hX9_init 0 := ⟨u_1192, u_64, by decide +kernel, by decide +kernel, by decide +kernel⟩
set_option maxHeartbeats 4000000 in
set_option maxRecDepth 100000 in
theorem kX9_init (l : Launch) (D : va_G) (cy : Nat → ClassId) (g : Nat) {res : Int32 × Int32 × Int32 × Int64 × Int32 × Int32 × Int32 × Int32 × Int32 × Int32 × Int32 × Int32 × Int32 × Int32 × Nat × Nat × (Nat → Nat → Int32) × Nat × Nat × (Nat → Nat → Int32)} (hR : fX9_init  = some res) : YM l D cy yX9_init hX9_init 2 47 307 [.ref g] [[(g, .inr (11, [.int 0, .null, .null, .null, .null, .null, .int 0, .int 0, .long 0, .null, .int 0, .int 0, .int 0, .int 0, .null, .int 0, .null]))]] (fun v u => ∃ gw : Nat, ∃ gB : Nat, ∃ gK : Nat, ∃ gU : Nat, ∃ gS : Nat, ∃ gR : Nat, ∃ gD : Nat, ∃ gwa : Nat, ∃ gwb : Nat, ∃ gwad : Nat → Nat, ∃ gwbd : Nat → Nat, ∃ gBd : Nat → Nat, ∃ gKd : Nat → Nat, ∃ gUd : Nat → Nat, ∃ gSd : Nat → Nat, ∃ gRd : Nat → Nat, ∃ gDd : Nat → Nat, v = none ∧ u = [[(g, .inr (11, [.int res.1, .ref gw, .ref gB, .ref gK, .ref gU, .ref gS, .int res.2.1, .int res.2.2.1, .long res.2.2.2.1, .null, .int res.2.2.2.2.1, .int res.2.2.2.2.2.1, .int res.2.2.2.2.2.2.1, .int res.2.2.2.2.2.2.2.1, .ref gR, .int res.2.2.2.2.2.2.2.2.1, .ref gD]))], [(gw, .inr (10, [.int res.2.2.2.2.2.2.2.2.2.1, .int res.2.2.2.2.2.2.2.2.2.2.1, .int res.2.2.2.2.2.2.2.2.2.2.2.1, .int res.2.2.2.2.2.2.2.2.2.2.2.2.1, .int res.2.2.2.2.2.2.2.2.2.2.2.2.2.1, .ref gwa, .ref gwb]))], [(gwa, .inl (cy 3, res.2.2.2.2.2.2.2.2.2.2.2.2.2.2.1, .inr (.inr (.inr (.inr (yad gwad))))))], xg_rows gwad res.2.2.2.2.2.2.2.2.2.2.2.2.2.2.1 (cy 1) res.2.2.2.2.2.2.2.2.2.2.2.2.2.2.2.1 res.2.2.2.2.2.2.2.2.2.2.2.2.2.2.2.2.1, [(gwb, .inl (cy 3, res.2.2.2.2.2.2.2.2.2.2.2.2.2.2.2.2.2.1, .inr (.inr (.inr (.inr (yad gwbd))))))], xg_rows gwbd res.2.2.2.2.2.2.2.2.2.2.2.2.2.2.2.2.2.1 (cy 1) res.2.2.2.2.2.2.2.2.2.2.2.2.2.2.2.2.2.2.1 res.2.2.2.2.2.2.2.2.2.2.2.2.2.2.2.2.2.2.2, [(gB, .inl (cy 4, 5, .inr (.inr (.inr (.inr (yad gBd))))))], xg_rows gBd 5 (cy 2) 5 (fun _ _ => 0), [(gK, .inl (cy 4, 5, .inr (.inr (.inr (.inr (yad gKd))))))], xg_rows gKd 5 (cy 2) 5 (fun _ _ => 0), [(gU, .inl (cy 3, 5, .inr (.inr (.inr (.inr (yad gUd))))))], xg_rows gUd 5 (cy 1) 5 (fun _ _ => 0), [(gS, .inl (cy 3, 5, .inr (.inr (.inr (.inr (yad gSd))))))], xg_rows gSd 5 (cy 1) 5 (fun _ _ => 0), [(gR, .inl (cy 3, 0, .inr (.inr (.inr (.inr (yad gRd))))))], xg_rows gRd 0 (cy 1) 0 (fun _ _ => 0), [(gD, .inl (cy 3, 0, .inr (.inr (.inr (.inr (yad gDd))))))], xg_rows gDd 0 (cy 1) 0 (fun _ _ => 0)]) := by
  unfold fX9_init at hR
  refine YM.ofV (cc := cX9_init) (maxL := 1) (ret := none) (by decide +kernel) rfl (Nat.le_of_ble_eq_true rfl) [(0, .ref g)] rfl rfl (fun p e s m args below meth c A H0 Q C hnm ret => ?_)
  refine xr_aload_n (n := 1) (j := 0) C dX9_init_0 rfl rfl ?_
  refine xr_objInit (n := 4) C u_1193 u_90 u_91 (Nat.le_of_ble_eq_true rfl) (Nat.le_of_ble_eq_true rfl) (Nat.le_of_ble_eq_true rfl) dX9_init_1 rfl ?_
  refine xr_aload_n (n := 5) (j := 0) C dX9_init_4 rfl rfl ?_
  refine xr_new (n := 8) (ci := 10) C tyX8 tyX8_ok in_X8 u_1194 u_1195 u_65 rfl [.int 0, .int 0, .int 0, .int 0, .int 0, .null, .null] (by decide) (Nat.le_of_ble_eq_true rfl) (Nat.le_of_ble_eq_true rfl) dX9_init_5 rfl (fun q_1 => ?_)
  refine xr_eq (bs' := [[(g, .inr (11, [.int 0, .null, .null, .null, .null, .null, .int 0, .int 0, .long 0, .null, .int 0, .int 0, .int 0, .int 0, .null, .int 0, .null]))], [(q_1, .inr (10, [.int 0, .int 0, .int 0, .int 0, .int 0, .null, .null]))]]) rfl ?_
  refine xr_dup (n := 9) C dX9_init_8 rfl rfl ?_
  obtain ⟨x_2, hx_2, hR⟩ := yf_b hR
  refine xr_callINp (n := 12) (As := []) (rest := [.ref q_1, .ref g]) C (kX8_init l D cy (vo := q_1) (vr := 0) (vk := 0) (vc := 0) (vg := 0) (vs := 0) hx_2) mX8_init (host := RX9) (List.mem_of_getElem? (i := 58) rfl) u_1197 rfl 2 [1] [0] rfl (by decide +kernel) rfl rfl rfl rfl (Nat.le_of_ble_eq_true rfl) (Nat.le_of_ble_eq_true rfl) (Nat.le_of_ble_eq_true rfl) (Nat.le_of_ble_eq_true rfl) (Nat.le_of_ble_eq_true rfl) dX9_init_9 rfl (fun _ _ hp => hp.2) (fun v_3 hp_5 => ?_)
  obtain ⟨rfl, -⟩ := hp_5
  refine xr_put (n := 15) C 0 rfl rfl 1 (by decide) in_X9 tyX9 tyX9_ok nmX9 u_1238 rfl rfl rfl rfl (Nat.le_of_ble_eq_true rfl) [[(g, .inr (11, [.int 0, .ref q_1, .null, .null, .null, .null, .int 0, .int 0, .long 0, .null, .int 0, .int 0, .int 0, .int 0, .null, .int 0, .null]))], [(q_1, .inr (10, [.int 0, .int 0, .int 0, .int 0, .int 0, .null, .null]))]] rfl rfl dX9_init_12 ?_
  refine xr_aload_n (n := 16) (j := 0) C dX9_init_15 rfl rfl ?_
  refine xr_iconst (n := 17) (v := 5) C dX9_init_16 rfl rfl ?_
  refine xr_iconst (n := 18) (v := 5) C dX9_init_17 rfl rfl ?_
  refine xr_mnaZ (n := 22) (N' := 5) (K' := 5) (cb := 6) (sb := 30) C u_1229 (by decide) u_1289 (by decide) (by decide) (by decide) (by decide) (by decide) (by decide) (by decide) (by decide) (Nat.le_of_ble_eq_true rfl) (Nat.le_of_ble_eq_true rfl) dX9_init_18 rfl (fun q_6 ad_7 => ?_)
  refine xr_eq (bs' := [[(g, .inr (11, [.int 0, .ref q_1, .null, .null, .null, .null, .int 0, .int 0, .long 0, .null, .int 0, .int 0, .int 0, .int 0, .null, .int 0, .null]))], [(q_1, .inr (10, [.int 0, .int 0, .int 0, .int 0, .int 0, .null, .null]))], [(q_6, .inl (cy 4, 5, .inr (.inr (.inr (.inr (yad ad_7))))))], xg_rows ad_7 5 (cy 2) 5 (fun _ _ => 0)]) rfl ?_
  refine xr_putF (n := 25) C 0 rfl rfl 2 (by decide) in_X9 tyX9 tyX9_ok nmX9 u_1239 rfl rfl hnm rfl rfl rfl (Nat.le_of_ble_eq_true rfl) [[(g, .inr (11, [.int 0, .ref q_1, .ref q_6, .null, .null, .null, .int 0, .int 0, .long 0, .null, .int 0, .int 0, .int 0, .int 0, .null, .int 0, .null]))], [(q_1, .inr (10, [.int 0, .int 0, .int 0, .int 0, .int 0, .null, .null]))], [(q_6, .inl (cy 4, 5, .inr (.inr (.inr (.inr (yad ad_7))))))], xg_rows ad_7 5 (cy 2) 5 (fun _ _ => 0)] rfl rfl dX9_init_22 ?_
  refine xr_aload_n (n := 26) (j := 0) C dX9_init_25 rfl rfl ?_
  refine xr_iconst (n := 27) (v := 5) C dX9_init_26 rfl rfl ?_
  refine xr_iconst (n := 28) (v := 5) C dX9_init_27 rfl rfl ?_
  refine xr_mnaZ (n := 32) (N' := 5) (K' := 5) (cb := 6) (sb := 30) C u_1229 (by decide) u_1289 (by decide) (by decide) (by decide) (by decide) (by decide) (by decide) (by decide) (by decide) (Nat.le_of_ble_eq_true rfl) (Nat.le_of_ble_eq_true rfl) dX9_init_28 rfl (fun q_8 ad_9 => ?_)
  refine xr_eq (bs' := [[(g, .inr (11, [.int 0, .ref q_1, .ref q_6, .null, .null, .null, .int 0, .int 0, .long 0, .null, .int 0, .int 0, .int 0, .int 0, .null, .int 0, .null]))], [(q_1, .inr (10, [.int 0, .int 0, .int 0, .int 0, .int 0, .null, .null]))], [(q_6, .inl (cy 4, 5, .inr (.inr (.inr (.inr (yad ad_7))))))], xg_rows ad_7 5 (cy 2) 5 (fun _ _ => 0), [(q_8, .inl (cy 4, 5, .inr (.inr (.inr (.inr (yad ad_9))))))], xg_rows ad_9 5 (cy 2) 5 (fun _ _ => 0)]) rfl ?_
  refine xr_putF (n := 35) C 0 rfl rfl 3 (by decide) in_X9 tyX9 tyX9_ok nmX9 u_1240 rfl rfl hnm rfl rfl rfl (Nat.le_of_ble_eq_true rfl) [[(g, .inr (11, [.int 0, .ref q_1, .ref q_6, .ref q_8, .null, .null, .int 0, .int 0, .long 0, .null, .int 0, .int 0, .int 0, .int 0, .null, .int 0, .null]))], [(q_1, .inr (10, [.int 0, .int 0, .int 0, .int 0, .int 0, .null, .null]))], [(q_6, .inl (cy 4, 5, .inr (.inr (.inr (.inr (yad ad_7))))))], xg_rows ad_7 5 (cy 2) 5 (fun _ _ => 0), [(q_8, .inl (cy 4, 5, .inr (.inr (.inr (.inr (yad ad_9))))))], xg_rows ad_9 5 (cy 2) 5 (fun _ _ => 0)] rfl rfl dX9_init_32 ?_
  refine xr_aload_n (n := 36) (j := 0) C dX9_init_35 rfl rfl ?_
  refine xr_iconst (n := 37) (v := 5) C dX9_init_36 rfl rfl ?_
  refine xr_iconst (n := 38) (v := 5) C dX9_init_37 rfl rfl ?_
  refine xr_mnaI (n := 42) (N' := 5) (K' := 5) (cb := 6) (sb := 30) C u_1231 (by decide) u_108 (by decide) (by decide) (by decide) (by decide) (by decide) (by decide) (by decide) (by decide) (Nat.le_of_ble_eq_true rfl) (Nat.le_of_ble_eq_true rfl) dX9_init_38 rfl (fun q_10 ad_11 => ?_)
  refine xr_eq (bs' := [[(g, .inr (11, [.int 0, .ref q_1, .ref q_6, .ref q_8, .null, .null, .int 0, .int 0, .long 0, .null, .int 0, .int 0, .int 0, .int 0, .null, .int 0, .null]))], [(q_1, .inr (10, [.int 0, .int 0, .int 0, .int 0, .int 0, .null, .null]))], [(q_6, .inl (cy 4, 5, .inr (.inr (.inr (.inr (yad ad_7))))))], xg_rows ad_7 5 (cy 2) 5 (fun _ _ => 0), [(q_8, .inl (cy 4, 5, .inr (.inr (.inr (.inr (yad ad_9))))))], xg_rows ad_9 5 (cy 2) 5 (fun _ _ => 0), [(q_10, .inl (cy 3, 5, .inr (.inr (.inr (.inr (yad ad_11))))))], xg_rows ad_11 5 (cy 1) 5 (fun _ _ => 0)]) rfl ?_
  refine xr_putF (n := 45) C 0 rfl rfl 4 (by decide) in_X9 tyX9 tyX9_ok nmX9 u_1241 rfl rfl hnm rfl rfl rfl (Nat.le_of_ble_eq_true rfl) [[(g, .inr (11, [.int 0, .ref q_1, .ref q_6, .ref q_8, .ref q_10, .null, .int 0, .int 0, .long 0, .null, .int 0, .int 0, .int 0, .int 0, .null, .int 0, .null]))], [(q_1, .inr (10, [.int 0, .int 0, .int 0, .int 0, .int 0, .null, .null]))], [(q_6, .inl (cy 4, 5, .inr (.inr (.inr (.inr (yad ad_7))))))], xg_rows ad_7 5 (cy 2) 5 (fun _ _ => 0), [(q_8, .inl (cy 4, 5, .inr (.inr (.inr (.inr (yad ad_9))))))], xg_rows ad_9 5 (cy 2) 5 (fun _ _ => 0), [(q_10, .inl (cy 3, 5, .inr (.inr (.inr (.inr (yad ad_11))))))], xg_rows ad_11 5 (cy 1) 5 (fun _ _ => 0)] rfl rfl dX9_init_42 ?_
  refine xr_aload_n (n := 46) (j := 0) C dX9_init_45 rfl rfl ?_
  refine xr_iconst (n := 47) (v := 5) C dX9_init_46 rfl rfl ?_
  refine xr_iconst (n := 48) (v := 5) C dX9_init_47 rfl rfl ?_
  refine xr_mnaI (n := 52) (N' := 5) (K' := 5) (cb := 6) (sb := 30) C u_1231 (by decide) u_108 (by decide) (by decide) (by decide) (by decide) (by decide) (by decide) (by decide) (by decide) (Nat.le_of_ble_eq_true rfl) (Nat.le_of_ble_eq_true rfl) dX9_init_48 rfl (fun q_12 ad_13 => ?_)
  refine xr_eq (bs' := [[(g, .inr (11, [.int 0, .ref q_1, .ref q_6, .ref q_8, .ref q_10, .null, .int 0, .int 0, .long 0, .null, .int 0, .int 0, .int 0, .int 0, .null, .int 0, .null]))], [(q_1, .inr (10, [.int 0, .int 0, .int 0, .int 0, .int 0, .null, .null]))], [(q_6, .inl (cy 4, 5, .inr (.inr (.inr (.inr (yad ad_7))))))], xg_rows ad_7 5 (cy 2) 5 (fun _ _ => 0), [(q_8, .inl (cy 4, 5, .inr (.inr (.inr (.inr (yad ad_9))))))], xg_rows ad_9 5 (cy 2) 5 (fun _ _ => 0), [(q_10, .inl (cy 3, 5, .inr (.inr (.inr (.inr (yad ad_11))))))], xg_rows ad_11 5 (cy 1) 5 (fun _ _ => 0), [(q_12, .inl (cy 3, 5, .inr (.inr (.inr (.inr (yad ad_13))))))], xg_rows ad_13 5 (cy 1) 5 (fun _ _ => 0)]) rfl ?_
  refine xr_putF (n := 55) C 0 rfl rfl 5 (by decide) in_X9 tyX9 tyX9_ok nmX9 u_1242 rfl rfl hnm rfl rfl rfl (Nat.le_of_ble_eq_true rfl) [[(g, .inr (11, [.int 0, .ref q_1, .ref q_6, .ref q_8, .ref q_10, .ref q_12, .int 0, .int 0, .long 0, .null, .int 0, .int 0, .int 0, .int 0, .null, .int 0, .null]))], [(q_1, .inr (10, [.int 0, .int 0, .int 0, .int 0, .int 0, .null, .null]))], [(q_6, .inl (cy 4, 5, .inr (.inr (.inr (.inr (yad ad_7))))))], xg_rows ad_7 5 (cy 2) 5 (fun _ _ => 0), [(q_8, .inl (cy 4, 5, .inr (.inr (.inr (.inr (yad ad_9))))))], xg_rows ad_9 5 (cy 2) 5 (fun _ _ => 0), [(q_10, .inl (cy 3, 5, .inr (.inr (.inr (.inr (yad ad_11))))))], xg_rows ad_11 5 (cy 1) 5 (fun _ _ => 0), [(q_12, .inl (cy 3, 5, .inr (.inr (.inr (.inr (yad ad_13))))))], xg_rows ad_13 5 (cy 1) 5 (fun _ _ => 0)] rfl rfl dX9_init_52 ?_
  refine xr_aload_n (n := 56) (j := 0) C dX9_init_55 rfl rfl ?_
  refine xr_iconst (n := 57) (v := 0) C dX9_init_56 rfl rfl ?_
  refine xr_iconst (n := 58) (v := 0) C dX9_init_57 rfl rfl ?_
  refine xr_mnaI (n := 62) (N' := 0) (K' := 0) (cb := 1) (sb := 0) C u_1231 (by decide) u_108 (by decide) (by decide) (by decide) (by decide) (by decide) (by decide) (by decide) (by decide) (Nat.le_of_ble_eq_true rfl) (Nat.le_of_ble_eq_true rfl) dX9_init_58 rfl (fun q_14 ad_15 => ?_)
  refine xr_eq (bs' := [[(g, .inr (11, [.int 0, .ref q_1, .ref q_6, .ref q_8, .ref q_10, .ref q_12, .int 0, .int 0, .long 0, .null, .int 0, .int 0, .int 0, .int 0, .null, .int 0, .null]))], [(q_1, .inr (10, [.int 0, .int 0, .int 0, .int 0, .int 0, .null, .null]))], [(q_6, .inl (cy 4, 5, .inr (.inr (.inr (.inr (yad ad_7))))))], xg_rows ad_7 5 (cy 2) 5 (fun _ _ => 0), [(q_8, .inl (cy 4, 5, .inr (.inr (.inr (.inr (yad ad_9))))))], xg_rows ad_9 5 (cy 2) 5 (fun _ _ => 0), [(q_10, .inl (cy 3, 5, .inr (.inr (.inr (.inr (yad ad_11))))))], xg_rows ad_11 5 (cy 1) 5 (fun _ _ => 0), [(q_12, .inl (cy 3, 5, .inr (.inr (.inr (.inr (yad ad_13))))))], xg_rows ad_13 5 (cy 1) 5 (fun _ _ => 0), [(q_14, .inl (cy 3, 0, .inr (.inr (.inr (.inr (yad ad_15))))))], xg_rows ad_15 0 (cy 1) 0 (fun _ _ => 0)]) rfl ?_
  refine xr_put (n := 65) C 0 rfl rfl 14 (by decide) in_X9 tyX9 tyX9_ok nmX9 u_1251 rfl rfl rfl rfl (Nat.le_of_ble_eq_true rfl) [[(g, .inr (11, [.int 0, .ref q_1, .ref q_6, .ref q_8, .ref q_10, .ref q_12, .int 0, .int 0, .long 0, .null, .int 0, .int 0, .int 0, .int 0, .ref q_14, .int 0, .null]))], [(q_1, .inr (10, [.int 0, .int 0, .int 0, .int 0, .int 0, .null, .null]))], [(q_6, .inl (cy 4, 5, .inr (.inr (.inr (.inr (yad ad_7))))))], xg_rows ad_7 5 (cy 2) 5 (fun _ _ => 0), [(q_8, .inl (cy 4, 5, .inr (.inr (.inr (.inr (yad ad_9))))))], xg_rows ad_9 5 (cy 2) 5 (fun _ _ => 0), [(q_10, .inl (cy 3, 5, .inr (.inr (.inr (.inr (yad ad_11))))))], xg_rows ad_11 5 (cy 1) 5 (fun _ _ => 0), [(q_12, .inl (cy 3, 5, .inr (.inr (.inr (.inr (yad ad_13))))))], xg_rows ad_13 5 (cy 1) 5 (fun _ _ => 0), [(q_14, .inl (cy 3, 0, .inr (.inr (.inr (.inr (yad ad_15))))))], xg_rows ad_15 0 (cy 1) 0 (fun _ _ => 0)] rfl rfl dX9_init_62 ?_
  refine xr_aload_n (n := 66) (j := 0) C dX9_init_65 rfl rfl ?_
  refine xr_iconst (n := 67) (v := 0) C dX9_init_66 rfl rfl ?_
  refine xr_iconst (n := 68) (v := 0) C dX9_init_67 rfl rfl ?_
  refine xr_mnaI (n := 72) (N' := 0) (K' := 0) (cb := 1) (sb := 0) C u_1231 (by decide) u_108 (by decide) (by decide) (by decide) (by decide) (by decide) (by decide) (by decide) (by decide) (Nat.le_of_ble_eq_true rfl) (Nat.le_of_ble_eq_true rfl) dX9_init_68 rfl (fun q_16 ad_17 => ?_)
  refine xr_eq (bs' := [[(g, .inr (11, [.int 0, .ref q_1, .ref q_6, .ref q_8, .ref q_10, .ref q_12, .int 0, .int 0, .long 0, .null, .int 0, .int 0, .int 0, .int 0, .ref q_14, .int 0, .null]))], [(q_1, .inr (10, [.int 0, .int 0, .int 0, .int 0, .int 0, .null, .null]))], [(q_6, .inl (cy 4, 5, .inr (.inr (.inr (.inr (yad ad_7))))))], xg_rows ad_7 5 (cy 2) 5 (fun _ _ => 0), [(q_8, .inl (cy 4, 5, .inr (.inr (.inr (.inr (yad ad_9))))))], xg_rows ad_9 5 (cy 2) 5 (fun _ _ => 0), [(q_10, .inl (cy 3, 5, .inr (.inr (.inr (.inr (yad ad_11))))))], xg_rows ad_11 5 (cy 1) 5 (fun _ _ => 0), [(q_12, .inl (cy 3, 5, .inr (.inr (.inr (.inr (yad ad_13))))))], xg_rows ad_13 5 (cy 1) 5 (fun _ _ => 0), [(q_14, .inl (cy 3, 0, .inr (.inr (.inr (.inr (yad ad_15))))))], xg_rows ad_15 0 (cy 1) 0 (fun _ _ => 0), [(q_16, .inl (cy 3, 0, .inr (.inr (.inr (.inr (yad ad_17))))))], xg_rows ad_17 0 (cy 1) 0 (fun _ _ => 0)]) rfl ?_
  refine xr_put (n := 75) C 0 rfl rfl 16 (by decide) in_X9 tyX9 tyX9_ok nmX9 u_1253 rfl rfl rfl rfl (Nat.le_of_ble_eq_true rfl) [[(g, .inr (11, [.int 0, .ref q_1, .ref q_6, .ref q_8, .ref q_10, .ref q_12, .int 0, .int 0, .long 0, .null, .int 0, .int 0, .int 0, .int 0, .ref q_14, .int 0, .ref q_16]))], [(q_1, .inr (10, [.int 0, .int 0, .int 0, .int 0, .int 0, .null, .null]))], [(q_6, .inl (cy 4, 5, .inr (.inr (.inr (.inr (yad ad_7))))))], xg_rows ad_7 5 (cy 2) 5 (fun _ _ => 0), [(q_8, .inl (cy 4, 5, .inr (.inr (.inr (.inr (yad ad_9))))))], xg_rows ad_9 5 (cy 2) 5 (fun _ _ => 0), [(q_10, .inl (cy 3, 5, .inr (.inr (.inr (.inr (yad ad_11))))))], xg_rows ad_11 5 (cy 1) 5 (fun _ _ => 0), [(q_12, .inl (cy 3, 5, .inr (.inr (.inr (.inr (yad ad_13))))))], xg_rows ad_13 5 (cy 1) 5 (fun _ _ => 0), [(q_14, .inl (cy 3, 0, .inr (.inr (.inr (.inr (yad ad_15))))))], xg_rows ad_15 0 (cy 1) 0 (fun _ _ => 0), [(q_16, .inl (cy 3, 0, .inr (.inr (.inr (.inr (yad ad_17))))))], xg_rows ad_17 0 (cy 1) 0 (fun _ _ => 0)] rfl rfl dX9_init_72 ?_
  refine xr_aload_n (n := 76) (j := 0) C dX9_init_75 rfl rfl ?_
  refine xr_iconst (n := 77) (v := 2) C dX9_init_76 rfl rfl ?_
  refine xr_iconst (n := 78) (v := 2) C dX9_init_77 rfl rfl ?_
  refine xr_iconst (n := 79) (v := 2) C dX9_init_78 rfl rfl ?_
  obtain ⟨x_18, hx_18, hR⟩ := yf_b hR
  refine xr_callV (n := 82) (As := [.int 2, .int 2, .int 2]) (rest := []) C (kX9_lay_0 l D cy (g := g) (gth := 0) (gw := q_1) (gB := q_6) (gK := q_8) (gU := q_10) (gS := q_12) (gbe := 0) (gwo := 0) (gta := 0) (glr := 0) (glc := 0) (gti := 0) (ggo := 0) (gR := q_14) (gch := 0) (gD := q_16) (gwr := 0) (gwk := 0) (gwc := 0) (gwg := 0) (gws := 0) (i1 := 2) (i2 := 2) (i3 := 2) hx_18) mX9_lay u_1233 u_1235 u_28 0 rfl rfl 14 [0, 1] [2, 3, 4, 5, 6, 7, 8, 9, 10, 11, 12, 13] rfl (by decide +kernel) rfl rfl rfl rfl (Nat.le_of_ble_eq_true rfl) (Nat.le_of_ble_eq_true rfl) (Nat.le_of_ble_eq_true rfl) (Nat.le_of_ble_eq_true rfl) (Nat.le_of_ble_eq_true rfl) dX9_init_79 rfl (fun v_19 u_20 hp_21 => ?_)
  obtain ⟨q_22, q_23, q_24, q_25, rfl, rfl⟩ := hp_21
  refine xr_perm C 18 [0, 1, 6, 7, 8, 9, 10, 11, 12, 13, 14, 15, 16, 17, 2, 3, 4, 5] [] [[(g, .inr (11, [.int 0, .ref q_1, .ref q_6, .ref q_8, .ref q_10, .ref q_12, .int 0, .int 0, .long 0, .null, .int 0, .int 0, .int 0, .int 0, .ref q_14, .int 0, .ref q_16]))], [(q_1, .inr (10, [.int x_18.1, .int x_18.2.1, .int x_18.2.2.1, .int 0, .int 0, .ref q_22, .ref q_23]))], [(q_6, .inl (cy 4, 5, .inr (.inr (.inr (.inr (yad ad_7))))))], xg_rows ad_7 5 (cy 2) 5 (fun _ _ => 0), [(q_8, .inl (cy 4, 5, .inr (.inr (.inr (.inr (yad ad_9))))))], xg_rows ad_9 5 (cy 2) 5 (fun _ _ => 0), [(q_10, .inl (cy 3, 5, .inr (.inr (.inr (.inr (yad ad_11))))))], xg_rows ad_11 5 (cy 1) 5 (fun _ _ => 0), [(q_12, .inl (cy 3, 5, .inr (.inr (.inr (.inr (yad ad_13))))))], xg_rows ad_13 5 (cy 1) 5 (fun _ _ => 0), [(q_14, .inl (cy 3, 0, .inr (.inr (.inr (.inr (yad ad_15))))))], xg_rows ad_15 0 (cy 1) 0 (fun _ _ => 0), [(q_16, .inl (cy 3, 0, .inr (.inr (.inr (.inr (yad ad_17))))))], xg_rows ad_17 0 (cy 1) 0 (fun _ _ => 0), [(q_22, .inl (cy 3, x_18.2.2.2.1, .inr (.inr (.inr (.inr (yad q_24))))))], xg_rows q_24 x_18.2.2.2.1 (cy 1) x_18.2.2.2.2.1 x_18.2.2.2.2.2.1, [(q_23, .inl (cy 3, x_18.2.2.2.2.2.2.1, .inr (.inr (.inr (.inr (yad q_25))))))], xg_rows q_25 x_18.2.2.2.2.2.2.1 (cy 1) x_18.2.2.2.2.2.2.2.1 x_18.2.2.2.2.2.2.2.2] rfl (by decide +kernel) rfl ?_
  obtain rfl := Option.some.inj hR
  refine xr_perm C 18 [0, 1, 14, 15, 16, 17, 2, 3, 4, 5, 6, 7, 8, 9, 10, 11, 12, 13] [] [[(g, .inr (11, [.int 0, .ref q_1, .ref q_6, .ref q_8, .ref q_10, .ref q_12, .int 0, .int 0, .long 0, .null, .int 0, .int 0, .int 0, .int 0, .ref q_14, .int 0, .ref q_16]))], [(q_1, .inr (10, [.int x_18.1, .int x_18.2.1, .int x_18.2.2.1, .int 0, .int 0, .ref q_22, .ref q_23]))], [(q_22, .inl (cy 3, x_18.2.2.2.1, .inr (.inr (.inr (.inr (yad q_24))))))], xg_rows q_24 x_18.2.2.2.1 (cy 1) x_18.2.2.2.2.1 x_18.2.2.2.2.2.1, [(q_23, .inl (cy 3, x_18.2.2.2.2.2.2.1, .inr (.inr (.inr (.inr (yad q_25))))))], xg_rows q_25 x_18.2.2.2.2.2.2.1 (cy 1) x_18.2.2.2.2.2.2.2.1 x_18.2.2.2.2.2.2.2.2, [(q_6, .inl (cy 4, 5, .inr (.inr (.inr (.inr (yad ad_7))))))], xg_rows ad_7 5 (cy 2) 5 (fun _ _ => 0), [(q_8, .inl (cy 4, 5, .inr (.inr (.inr (.inr (yad ad_9))))))], xg_rows ad_9 5 (cy 2) 5 (fun _ _ => 0), [(q_10, .inl (cy 3, 5, .inr (.inr (.inr (.inr (yad ad_11))))))], xg_rows ad_11 5 (cy 1) 5 (fun _ _ => 0), [(q_12, .inl (cy 3, 5, .inr (.inr (.inr (.inr (yad ad_13))))))], xg_rows ad_13 5 (cy 1) 5 (fun _ _ => 0), [(q_14, .inl (cy 3, 0, .inr (.inr (.inr (.inr (yad ad_15))))))], xg_rows ad_15 0 (cy 1) 0 (fun _ _ => 0), [(q_16, .inl (cy 3, 0, .inr (.inr (.inr (.inr (yad ad_17))))))], xg_rows ad_17 0 (cy 1) 0 (fun _ _ => 0)] rfl (by decide +kernel) rfl ?_
  exact ret ⟨q_1, q_6, q_8, q_10, q_12, q_14, q_16, q_22, q_23, q_24, q_25, ad_7, ad_9, ad_11, ad_13, ad_15, ad_17, rfl, rfl⟩ (Nat.le_of_ble_eq_true rfl) (Nat.le_of_ble_eq_true rfl) dX9_init_82
theorem dX7_init_0 : decode cX7_init 0 = .ok (.aload_n 0, 1) := by decide +kernel
theorem dX7_init_1 : decode cX7_init 1 = .ok (.invokespecial 1, 3) := by decide +kernel
theorem dX7_init_4 : decode cX7_init 4 = .ok (.return_, 1) := by decide +kernel
def fX7_init  : Option (Unit) := some ()
abbrev hX7_init : Cond := .code yX7_init cX7_init 1 none
theorem mX7_init : yM yX7_init hX7_init 0 := ⟨u_554, u_66, by decide +kernel, by decide +kernel, by decide +kernel⟩
set_option maxHeartbeats 4000000 in
set_option maxRecDepth 100000 in
theorem kX7_init (l : Launch) (D : va_G) (cy : Nat → ClassId) (vo : Nat) {res : Unit} (hR : fX7_init  = some res) : YM l D cy yX7_init hX7_init 1 0 0 [.ref vo] [[(vo, .inr (9, [.long 0, .null]))]] (fun v u => v = none ∧ u = [[(vo, .inr (9, [.long 0, .null]))]]) := by
  unfold fX7_init at hR
  refine YM.ofV (cc := cX7_init) (maxL := 1) (ret := none) (by decide +kernel) rfl (Nat.le_of_ble_eq_true rfl) [(0, .ref vo)] rfl rfl (fun p e s m args below meth c A H0 Q C hnm ret => ?_)
  refine xr_aload_n (n := 1) (j := 0) C dX7_init_0 rfl rfl ?_
  refine xr_objInit (n := 4) C u_555 u_90 u_91 (Nat.le_of_ble_eq_true rfl) (Nat.le_of_ble_eq_true rfl) (Nat.le_of_ble_eq_true rfl) dX7_init_1 rfl ?_
  obtain rfl := Option.some.inj hR
  exact ret ⟨rfl, rfl⟩ (Nat.le_of_ble_eq_true rfl) (Nat.le_of_ble_eq_true rfl) dX7_init_4
theorem dX9_row_0 : decode cX9_row 0 = .ok (.aload_n 0, 1) := by decide +kernel
theorem dX9_row_1 : decode cX9_row 1 = .ok (.iload_n 1, 1) := by decide +kernel
theorem dX9_row_2 : decode cX9_row 2 = .ok (.iconst 0, 1) := by decide +kernel
theorem dX9_row_3 : decode cX9_row 3 = .ok (.iconst 4, 1) := by decide +kernel
theorem dX9_row_4 : decode cX9_row 4 = .ok (.invokestatic 75, 3) := by decide +kernel
theorem dX9_row_7 : decode cX9_row 7 = .ok (.ifCond .ne 7, 3) := by decide +kernel
theorem dX9_row_10 : decode cX9_row 10 = .ok (.iconst 1, 1) := by decide +kernel
theorem dX9_row_11 : decode cX9_row 11 = .ok (.goto 4, 3) := by decide +kernel
theorem dX9_row_14 : decode cX9_row 14 = .ok (.iconst 0, 1) := by decide +kernel
theorem dX9_row_15 : decode cX9_row 15 = .ok (.iconst 1, 1) := by decide +kernel
theorem dX9_row_16 : decode cX9_row 16 = .ok (.invokevirtual 79, 3) := by decide +kernel
theorem dX9_row_19 : decode cX9_row 19 = .ok (.ifCond .eq 7, 3) := by decide +kernel
theorem dX9_row_22 : decode cX9_row 22 = .ok (.ldc_w 256, 3) := by decide +kernel
theorem dX9_row_25 : decode cX9_row 25 = .ok (.areturn, 1) := by decide +kernel
theorem dX9_row_26 : decode cX9_row 26 = .ok (.new 258, 3) := by decide +kernel
theorem dX9_row_29 : decode cX9_row 29 = .ok (.dup, 1) := by decide +kernel
theorem dX9_row_30 : decode cX9_row 30 = .ok (.invokespecial 260, 3) := by decide +kernel
theorem dX9_row_33 : decode cX9_row 33 = .ok (.astore_n 2, 1) := by decide +kernel
theorem dX9_row_34 : decode cX9_row 34 = .ok (.iconst 0, 1) := by decide +kernel
theorem dX9_row_35 : decode cX9_row 35 = .ok (.istore_n 3, 1) := by decide +kernel
theorem dX9_row_36 : decode cX9_row 36 = .ok (.iload_n 3, 1) := by decide +kernel
theorem dX9_row_37 : decode cX9_row 37 = .ok (.iconst 5, 1) := by decide +kernel
theorem dX9_row_38 : decode cX9_row 38 = .ok (.if_icmp .ge 94, 3) := by decide +kernel
theorem dX9_row_41 : decode cX9_row 41 = .ok (.aload_n 0, 1) := by decide +kernel
theorem dX9_row_42 : decode cX9_row 42 = .ok (.getfield 137, 3) := by decide +kernel
theorem dX9_row_45 : decode cX9_row 45 = .ok (.ifnull 29, 3) := by decide +kernel
theorem dX9_row_48 : decode cX9_row 48 = .ok (.aload_n 0, 1) := by decide +kernel
theorem dX9_row_49 : decode cX9_row 49 = .ok (.getfield 146, 3) := by decide +kernel
theorem dX9_row_52 : decode cX9_row 52 = .ok (.iload_n 1, 1) := by decide +kernel
theorem dX9_row_53 : decode cX9_row 53 = .ok (.invokestatic 93, 3) := by decide +kernel
theorem dX9_row_56 : decode cX9_row 56 = .ok (.ifCond .eq 18, 3) := by decide +kernel
theorem dX9_row_59 : decode cX9_row 59 = .ok (.aload_n 0, 1) := by decide +kernel
theorem dX9_row_60 : decode cX9_row 60 = .ok (.getfield 149, 3) := by decide +kernel
theorem dX9_row_63 : decode cX9_row 63 = .ok (.iload_n 3, 1) := by decide +kernel
theorem dX9_row_64 : decode cX9_row 64 = .ok (.invokestatic 93, 3) := by decide +kernel
theorem dX9_row_67 : decode cX9_row 67 = .ok (.ifCond .eq 7, 3) := by decide +kernel
theorem dX9_row_70 : decode cX9_row 70 = .ok (.iconst 1, 1) := by decide +kernel
theorem dX9_row_71 : decode cX9_row 71 = .ok (.goto 4, 3) := by decide +kernel
theorem dX9_row_74 : decode cX9_row 74 = .ok (.iconst 0, 1) := by decide +kernel
theorem dX9_row_75 : decode cX9_row 75 = .ok (.istore 4, 2) := by decide +kernel
theorem dX9_row_77 : decode cX9_row 77 = .ok (.aload_n 2, 1) := by decide +kernel
theorem dX9_row_78 : decode cX9_row 78 = .ok (.aload_n 0, 1) := by decide +kernel
theorem dX9_row_79 : decode cX9_row 79 = .ok (.getfield 27, 3) := by decide +kernel
theorem dX9_row_82 : decode cX9_row 82 = .ok (.iload_n 1, 1) := by decide +kernel
theorem dX9_row_83 : decode cX9_row 83 = .ok (.aaload, 1) := by decide +kernel
theorem dX9_row_84 : decode cX9_row 84 = .ok (.iload_n 3, 1) := by decide +kernel
theorem dX9_row_85 : decode cX9_row 85 = .ok (.baload, 1) := by decide +kernel
theorem dX9_row_86 : decode cX9_row 86 = .ok (.ifCond .eq 8, 3) := by decide +kernel
theorem dX9_row_89 : decode cX9_row 89 = .ok (.bipush 120, 2) := by decide +kernel
theorem dX9_row_91 : decode cX9_row 91 = .ok (.goto 31, 3) := by decide +kernel
theorem dX9_row_94 : decode cX9_row 94 = .ok (.aload_n 0, 1) := by decide +kernel
theorem dX9_row_95 : decode cX9_row 95 = .ok (.getfield 24, 3) := by decide +kernel
theorem dX9_row_98 : decode cX9_row 98 = .ok (.iload_n 1, 1) := by decide +kernel
theorem dX9_row_99 : decode cX9_row 99 = .ok (.aaload, 1) := by decide +kernel
theorem dX9_row_100 : decode cX9_row 100 = .ok (.iload_n 3, 1) := by decide +kernel
theorem dX9_row_101 : decode cX9_row 101 = .ok (.baload, 1) := by decide +kernel
theorem dX9_row_102 : decode cX9_row 102 = .ok (.ifCond .eq 8, 3) := by decide +kernel
theorem dX9_row_105 : decode cX9_row 105 = .ok (.bipush 63, 2) := by decide +kernel
theorem dX9_row_107 : decode cX9_row 107 = .ok (.goto 15, 3) := by decide +kernel
theorem dX9_row_110 : decode cX9_row 110 = .ok (.iload 4, 2) := by decide +kernel
theorem dX9_row_112 : decode cX9_row 112 = .ok (.ifCond .eq 8, 3) := by decide +kernel
theorem dX9_row_115 : decode cX9_row 115 = .ok (.bipush 111, 2) := by decide +kernel
theorem dX9_row_117 : decode cX9_row 117 = .ok (.goto 5, 3) := by decide +kernel
theorem dX9_row_120 : decode cX9_row 120 = .ok (.bipush 46, 2) := by decide +kernel
theorem dX9_row_122 : decode cX9_row 122 = .ok (.invokevirtual 261, 3) := by decide +kernel
theorem dX9_row_125 : decode cX9_row 125 = .ok (.pop, 1) := by decide +kernel
theorem dX9_row_126 : decode cX9_row 126 = .ok (.iinc 3 1, 3) := by decide +kernel
theorem dX9_row_129 : decode cX9_row 129 = .ok (.goto (-93), 3) := by decide +kernel
theorem dX9_row_132 : decode cX9_row 132 = .ok (.aload_n 2, 1) := by decide +kernel
theorem dX9_row_133 : decode cX9_row 133 = .ok (.invokevirtual 265, 3) := by decide +kernel
theorem dX9_row_136 : decode cX9_row 136 = .ok (.areturn, 1) := by decide +kernel
def fX9_row_i (gBG : Nat → Nat → Int32) (gKG : Nat → Nat → Int32) (i1 : Int32) : Option ((Int32 × (Nat → Int32) × Nat) ⊕ Int32) := ((fX9_isIn i1 0 4).bind fun x_1 => ((((if x_1 = 0 then some 1 else some 0) : Option (Int32))).bind fun r_6 => ((fX9_start_i r_6 1).bind fun x_7 => (if x_7.1 = 0 then ((fJ4_init_da8c8).bind fun x_13 => ((wl (S := Int32 × Int32 × (Nat → Int32)) (B := Int32 × Int32 × (Nat → Int32)) (fun s_18 => (if 5 ≤ s_18.1 then some (.inr (s_18.1, s_18.2.1, s_18.2.2)) else (if ¬ (i1 < 0 ∨ 5 ≤ i1.toNatClampNeg) then (if ¬ (s_18.1 < 0 ∨ 5 ≤ s_18.1.toNatClampNeg) then ((((if (gKG i1.toNatClampNeg s_18.1.toNatClampNeg) = 0 then (if ¬ (i1 < 0 ∨ 5 ≤ i1.toNatClampNeg) then (if ¬ (s_18.1 < 0 ∨ 5 ≤ s_18.1.toNatClampNeg) then (if (gBG i1.toNatClampNeg s_18.1.toNatClampNeg) = 0 then some 46 else some 63) else none) else none) else some 120) : Option (Int32))).bind fun r_34 => ((fJ4_append_cf468 s_18.2.1 s_18.2.2 16 r_34).bind fun x_35 => some (.inl (s_18.1 + 1, x_35.1, x_35.2)))) else none) else none))) yFuel (0, 0, fun _ => 0)).bind fun b_18 => ((fJ4_toString_0e30d b_18.2.1 b_18.2.2 16).bind fun x_19 => some (.inl (x_7.2, x_19.1, x_19.2))))) else some (.inr x_7.2)))))
abbrev hX9_row : Cond := .code yX9_row cX9_row 5 (some (.object "java/lang/String"))
theorem mX9_row : yM yX9_row hX9_row 1 := ⟨u_1550, u_64, by decide +kernel, by decide +kernel, by decide +kernel⟩
set_option maxHeartbeats 4000000 in
set_option maxRecDepth 100000 in
theorem kX9_row_i (l : Launch) (D : va_G) (cy : Nat → ClassId) (g : Nat) (gth : Int32) (gw : Nat) (gB : Nat) (gK : Nat) (gU : Nat) (gS : Nat) (gbe : Int32) (gwo : Int32) (gta : Int64) (glr : Int32) (glc : Int32) (gti : Int32) (ggo : Int32) (gR : Nat) (gch : Int32) (gD : Nat) (gBd : Nat → Nat) (gBG : Nat → Nat → Int32) (gKd : Nat → Nat) (gKG : Nat → Nat → Int32) (i1 : Int32) {res : (Int32 × (Nat → Int32) × Nat) ⊕ Int32} (hR : fX9_row_i gBG gKG i1 = some res) : YM l D cy yX9_row hX9_row 7 4 40 [.ref g, .int i1] [[(g, .inr (11, [.int gth, .ref gw, .ref gB, .ref gK, .ref gU, .ref gS, .int gbe, .int gwo, .long gta, .null, .int glr, .int glc, .int gti, .int ggo, .ref gR, .int gch, .ref gD]))], [(gB, .inl (cy 4, 5, .inr (.inr (.inr (.inr (yad gBd))))))], xg_rows gBd 5 (cy 2) 5 gBG, [(gK, .inl (cy 4, 5, .inr (.inr (.inr (.inr (yad gKd))))))], xg_rows gKd 5 (cy 2) 5 gKG] (fun v u => (∃ r, res = .inl r ∧ ∃ rs : Nat, ∃ rsv : Nat, v = some (.ref rs) ∧ u = [[(g, .inr (11, [.int r.1, .ref gw, .ref gB, .ref gK, .ref gU, .ref gS, .int gbe, .int gwo, .long gta, .null, .int glr, .int glc, .int gti, .int ggo, .ref gR, .int gch, .ref gD]))], [(gB, .inl (cy 4, 5, .inr (.inr (.inr (.inr (yad gBd))))))], xg_rows gBd 5 (cy 2) 5 gBG, [(gK, .inl (cy 4, 5, .inr (.inr (.inr (.inr (yad gKd))))))], xg_rows gKd 5 (cy 2) 5 gKG, [(rs, .inr (0, [.ref rsv, .int 0, .int 0, .int 0]))], [(rsv, .inl (cy 0, r.2.2, .inl r.2.1))]]) ∨ (∃ r, res = .inr r ∧ ∃ rs : Nat, v = some (.ref rs) ∧ u = [[(g, .inr (11, [.int r, .ref gw, .ref gB, .ref gK, .ref gU, .ref gS, .int gbe, .int gwo, .long gta, .null, .int glr, .int glc, .int gti, .int ggo, .ref gR, .int gch, .ref gD]))], [(gB, .inl (cy 4, 5, .inr (.inr (.inr (.inr (yad gBd))))))], xg_rows gBd 5 (cy 2) 5 gBG, [(gK, .inl (cy 4, 5, .inr (.inr (.inr (.inr (yad gKd))))))], xg_rows gKd 5 (cy 2) 5 gKG])) := by
  unfold fX9_row_i at hR
  refine YM.ofA (cc := cX9_row) (maxL := 5) (ret := (some (.object "java/lang/String"))) (by decide +kernel) rfl (Nat.le_of_ble_eq_true rfl) [(0, .ref g), (1, .int i1)] rfl (.object "java/lang/String") rfl (Or.inl ⟨_, rfl⟩) (fun p e s m args below meth c A H0 Q C hnm ret => ?_)
  refine xr_aload_n (n := 1) (j := 0) C dX9_row_0 rfl rfl ?_
  refine xr_iload_n (n := 2) (j := 1) C dX9_row_1 rfl rfl ?_
  refine xr_iconst (n := 3) (v := 0) C dX9_row_2 rfl rfl ?_
  refine xr_iconst (n := 4) (v := 4) C dX9_row_3 rfl rfl ?_
  obtain ⟨x_1, hx_1, hR⟩ := yf_b hR
  refine xr_callSp (n := 7) (As := [.int i1, .int 0, .int 4]) (rest := [.ref g]) C (kX9_isIn l D cy (i1 := i1) (i2 := 0) (i3 := 4) hx_1) mX9_isIn u_1298 u_1299 5 [] [0, 1, 2, 3, 4] rfl (by decide +kernel) rfl rfl rfl rfl (Nat.le_of_ble_eq_true rfl) (Nat.le_of_ble_eq_true rfl) (Nat.le_of_ble_eq_true rfl) (Nat.le_of_ble_eq_true rfl) (Nat.le_of_ble_eq_true rfl) dX9_row_4 rfl (fun _ _ hp => hp.2) (fun v_2 hp_4 => ?_)
  obtain ⟨rfl, -⟩ := hp_4
  refine xr_st (st' := [.int x_1, .ref g]) rfl ?_
  obtain ⟨r_6, hE_6, hR⟩ := yf_b hR
  have J_6 : X p l e (yR 7 4 40) s m args below meth c D A H0 5 Q [[(g, .inr (11, [.int gth, .ref gw, .ref gB, .ref gK, .ref gU, .ref gS, .int gbe, .int gwo, .long gta, .null, .int glr, .int glc, .int gti, .int ggo, .ref gR, .int gch, .ref gD]))], [(gB, .inl (cy 4, 5, .inr (.inr (.inr (.inr (yad gBd))))))], xg_rows gBd 5 (cy 2) 5 gBG, [(gK, .inl (cy 4, 5, .inr (.inr (.inr (.inr (yad gKd))))))], xg_rows gKd 5 (cy 2) 5 gKG] 0 0 [(0, .ref g), (1, .int i1)] 15 [.int r_6, .ref g] := by
    refine xr_iconst (n := 16) (v := 1) C dX9_row_15 rfl rfl ?_
    obtain ⟨x_7, hx_7, hR⟩ := yf_b hR
    refine xr_callV (n := 19) (As := [.int r_6, .int 1]) (rest := []) C (kX9_start_i l D cy (g := g) (gth := gth) (gw := gw) (gB := gB) (gK := gK) (gU := gU) (gS := gS) (gbe := gbe) (gwo := gwo) (gta := gta) (glr := glr) (glc := glc) (gti := gti) (ggo := ggo) (gR := gR) (gch := gch) (gD := gD) (i1 := r_6) (i2 := 1) hx_7) mX9_start u_1301 u_1303 u_29 0 rfl rfl 5 [0] [1, 2, 3, 4] rfl (by decide +kernel) rfl rfl rfl rfl (Nat.le_of_ble_eq_true rfl) (Nat.le_of_ble_eq_true rfl) (Nat.le_of_ble_eq_true rfl) (Nat.le_of_ble_eq_true rfl) (Nat.le_of_ble_eq_true rfl) dX9_row_16 rfl (fun v_8 u_9 hp_10 => ?_)
    obtain ⟨rfl, rfl⟩ := hp_10
    refine xr_perm C 5 [0, 1, 2, 3, 4] [] [[(g, .inr (11, [.int x_7.2, .ref gw, .ref gB, .ref gK, .ref gU, .ref gS, .int gbe, .int gwo, .long gta, .null, .int glr, .int glc, .int gti, .int ggo, .ref gR, .int gch, .ref gD]))], [(gB, .inl (cy 4, 5, .inr (.inr (.inr (.inr (yad gBd))))))], xg_rows gBd 5 (cy 2) 5 gBG, [(gK, .inl (cy 4, 5, .inr (.inr (.inr (.inr (yad gKd))))))], xg_rows gKd 5 (cy 2) 5 gKG] rfl (by decide +kernel) rfl ?_
    refine xr_st (st' := [.int x_7.1]) rfl ?_
    refine xr_if_eq (tgt := 26) (n := 22) C dX9_row_19 rfl rfl (fun c_11 => ?_) (fun c_11 => ?_)
    · replace hR := yf_t c_11 hR
      refine xr_new (n := 29) (ci := 1) C tyJ4 tyJ4_ok in_J4 u_1552 u_908 u_76 rfl [.null, .int 0, .int 0, .int 0] (by decide) (Nat.le_of_ble_eq_true rfl) (Nat.le_of_ble_eq_true rfl) dX9_row_26 rfl (fun q_12 => ?_)
      refine xr_eq (bs' := [[(g, .inr (11, [.int x_7.2, .ref gw, .ref gB, .ref gK, .ref gU, .ref gS, .int gbe, .int gwo, .long gta, .null, .int glr, .int glc, .int gti, .int ggo, .ref gR, .int gch, .ref gD]))], [(gB, .inl (cy 4, 5, .inr (.inr (.inr (.inr (yad gBd))))))], xg_rows gBd 5 (cy 2) 5 gBG, [(gK, .inl (cy 4, 5, .inr (.inr (.inr (.inr (yad gKd))))))], xg_rows gKd 5 (cy 2) 5 gKG, [(q_12, .inr (1, [.null, .int 0, .int 0, .int 0]))]]) rfl ?_
      refine xr_dup (n := 30) C dX9_row_29 rfl rfl ?_
      obtain ⟨x_13, hx_13, hR⟩ := yf_b hR
      refine xr_callI (n := 33) (As := []) (rest := [.ref q_12]) C (kJ4_init_da8c8 l D cy (h := q_12) hx_13) mJ4_init_da8c8 u_1553 u_910 rfl 6 [5] [0, 1, 2, 3, 4] rfl (by decide +kernel) rfl rfl rfl rfl (Nat.le_of_ble_eq_true rfl) (Nat.le_of_ble_eq_true rfl) (Nat.le_of_ble_eq_true rfl) (Nat.le_of_ble_eq_true rfl) (Nat.le_of_ble_eq_true rfl) dX9_row_30 rfl (fun v_14 u_15 hp_16 => ?_)
      obtain ⟨q_17, rfl, rfl⟩ := hp_16
      refine xr_perm C 7 [2, 3, 4, 5, 6, 0, 1] [] [[(g, .inr (11, [.int x_7.2, .ref gw, .ref gB, .ref gK, .ref gU, .ref gS, .int gbe, .int gwo, .long gta, .null, .int glr, .int glc, .int gti, .int ggo, .ref gR, .int gch, .ref gD]))], [(gB, .inl (cy 4, 5, .inr (.inr (.inr (.inr (yad gBd))))))], xg_rows gBd 5 (cy 2) 5 gBG, [(gK, .inl (cy 4, 5, .inr (.inr (.inr (.inr (yad gKd))))))], xg_rows gKd 5 (cy 2) 5 gKG, [(q_12, .inr (1, [.ref q_17, .int 0, .int 0, .int 0]))], [(q_17, .inl (cy 0, 16, .inl (fun _ => 0)))]] rfl (by decide +kernel) rfl ?_
      refine xr_astore_n (n := 34) C [(2, .ref q_12), (0, .ref g), (1, .int i1)] dX9_row_33 (by decide) rfl rfl ?_
      refine xr_iconst (n := 35) (v := 0) C dX9_row_34 rfl rfl ?_
      refine xr_istore_n (n := 36) C [(3, .int 0), (2, .ref q_12), (0, .ref g), (1, .int i1)] dX9_row_35 (by decide) rfl rfl ?_
      refine xr_lv (lv' := [(0, .ref g), (1, .int i1), (2, .ref q_12), (3, .int 0)]) [2, 3, 1, 0] rfl ?_
      obtain ⟨b_18, hb_18, hR⟩ := yf_b hR
      have K_18 : X p l e (yR 7 4 40) s m args below meth c D A H0 5 Q [[(g, .inr (11, [.int x_7.2, .ref gw, .ref gB, .ref gK, .ref gU, .ref gS, .int gbe, .int gwo, .long gta, .null, .int glr, .int glc, .int gti, .int ggo, .ref gR, .int gch, .ref gD]))], [(gB, .inl (cy 4, 5, .inr (.inr (.inr (.inr (yad gBd))))))], xg_rows gBd 5 (cy 2) 5 gBG, [(gK, .inl (cy 4, 5, .inr (.inr (.inr (.inr (yad gKd))))))], xg_rows gKd 5 (cy 2) 5 gKG, [(q_12, .inr (1, [.ref q_17, .int 0, .int 0, .int b_18.2.1]))], [(q_17, .inl (cy 0, 16, .inl b_18.2.2))]] (0 + 1 + 1) (0 + 4 + 16) [(2, .ref q_12)] 132 [] := by
        refine xr_aload_n (n := 133) (j := 0) C dX9_row_132 rfl rfl ?_
        obtain ⟨x_19, hx_19, hR⟩ := yf_b hR
        refine xr_callV (n := 136) (As := []) (rest := []) C (kJ4_toString_0e30d l D cy (h := q_12) (hv := q_17) (hc := b_18.2.1) (hf := b_18.2.2) (hn := 16) hx_19) mJ4_toString_0e30d u_1555 u_1035 u_1036 5 rfl rfl 7 [5, 6] [0, 1, 2, 3, 4] rfl (by decide +kernel) rfl rfl rfl rfl (Nat.le_of_ble_eq_true rfl) (Nat.le_of_ble_eq_true rfl) (Nat.le_of_ble_eq_true rfl) (Nat.le_of_ble_eq_true rfl) (Nat.le_of_ble_eq_true rfl) dX9_row_133 rfl (fun v_20 u_21 hp_22 => ?_)
        obtain ⟨q_23, q_24, rfl, rfl⟩ := hp_22
        refine xr_perm C 9 [4, 5, 6, 7, 8, 0, 1, 2, 3] [] [[(g, .inr (11, [.int x_7.2, .ref gw, .ref gB, .ref gK, .ref gU, .ref gS, .int gbe, .int gwo, .long gta, .null, .int glr, .int glc, .int gti, .int ggo, .ref gR, .int gch, .ref gD]))], [(gB, .inl (cy 4, 5, .inr (.inr (.inr (.inr (yad gBd))))))], xg_rows gBd 5 (cy 2) 5 gBG, [(gK, .inl (cy 4, 5, .inr (.inr (.inr (.inr (yad gKd))))))], xg_rows gKd 5 (cy 2) 5 gKG, [(q_12, .inr (1, [.ref q_17, .int 0, .int 0, .int b_18.2.1]))], [(q_17, .inl (cy 0, 16, .inl b_18.2.2))], [(q_23, .inr (0, [.ref q_24, .int 0, .int 0, .int 0]))], [(q_24, .inl (cy 0, x_19.2, .inl x_19.1))]] rfl (by decide +kernel) rfl ?_
        refine xr_st (st' := [.ref q_23]) rfl ?_
        obtain rfl := Option.some.inj hR
        refine xr_perm C 9 [0, 1, 2, 3, 4, 7, 8] [5, 6] [[(g, .inr (11, [.int x_7.2, .ref gw, .ref gB, .ref gK, .ref gU, .ref gS, .int gbe, .int gwo, .long gta, .null, .int glr, .int glc, .int gti, .int ggo, .ref gR, .int gch, .ref gD]))], [(gB, .inl (cy 4, 5, .inr (.inr (.inr (.inr (yad gBd))))))], xg_rows gBd 5 (cy 2) 5 gBG, [(gK, .inl (cy 4, 5, .inr (.inr (.inr (.inr (yad gKd))))))], xg_rows gKd 5 (cy 2) 5 gKG, [(q_23, .inr (0, [.ref q_24, .int 0, .int 0, .int 0]))], [(q_24, .inl (cy 0, x_19.2, .inl x_19.1))]] rfl (by decide +kernel) rfl ?_
        exact ret q_23 (Or.inl ⟨_, rfl, q_23, q_24, rfl, rfl⟩) (Nat.le_of_ble_eq_true rfl) (Nat.le_of_ble_eq_true rfl) dX9_row_136
      refine y_loop (P := fun (s_18 : Int32 × Int32 × (Nat → Int32)) => X p l e (yR 7 4 40) s m args below meth c D A H0 5 Q [[(g, .inr (11, [.int x_7.2, .ref gw, .ref gB, .ref gK, .ref gU, .ref gS, .int gbe, .int gwo, .long gta, .null, .int glr, .int glc, .int gti, .int ggo, .ref gR, .int gch, .ref gD]))], [(gB, .inl (cy 4, 5, .inr (.inr (.inr (.inr (yad gBd))))))], xg_rows gBd 5 (cy 2) 5 gBG, [(gK, .inl (cy 4, 5, .inr (.inr (.inr (.inr (yad gKd))))))], xg_rows gKd 5 (cy 2) 5 gKG, [(q_12, .inr (1, [.ref q_17, .int 0, .int 0, .int s_18.2.1]))], [(q_17, .inl (cy 0, 16, .inl s_18.2.2))]] (0 + 1 + 1) (0 + 4 + 16) [(0, .ref g), (1, .int i1), (2, .ref q_12), (3, .int s_18.1)] 36 []) ?_ _ (0, 0, fun _ => 0) hb_18
      intro s_18 o_18 ho_18 hk_18 hx_18
      refine xr_iload_n (n := 37) (j := 3) C dX9_row_36 rfl rfl ?_
      refine xr_iconst (n := 38) (v := 5) C dX9_row_37 rfl rfl ?_
      refine xr_icmp_ge (tgt := 132) (n := 41) C dX9_row_38 rfl rfl (fun c_25 => ?_) (fun c_25 => ?_)
      · replace ho_18 := yf_t c_25 ho_18
        refine xr_lv (lv' := [(2, .ref q_12)]) [2] rfl ?_
        have e_26 := hx_18 _ (Option.some.inj ho_18).symm
        subst e_26
        exact K_18
      · replace ho_18 := yf_f c_25 ho_18
        refine xr_aload_n (n := 42) (j := 0) C dX9_row_41 rfl rfl ?_
        refine xr_get (n := 45) C 0 rfl rfl 9 (by decide) in_X9 u_1246 rfl (v := .null) rfl dX9_row_42 rfl ?_
        refine xr_ifnullN (tgt := 74) C dX9_row_45 rfl ?_
        refine xr_iconst (n := 75) (v := 0) C dX9_row_74 rfl rfl ?_
        refine xr_istore (n := 77) C [(4, .int 0), (0, .ref g), (1, .int i1), (2, .ref q_12), (3, .int s_18.1)] dX9_row_75 (by decide) rfl rfl ?_
        refine xr_aload_n (n := 78) (j := 3) C dX9_row_77 rfl rfl ?_
        refine xr_aload_n (n := 79) (j := 1) C dX9_row_78 rfl rfl ?_
        refine xr_get (n := 82) C 0 rfl rfl 3 (by decide) in_X9 u_1240 rfl (v := .ref gK) rfl dX9_row_79 rfl ?_
        refine xr_iload_n (n := 83) (j := 2) C dX9_row_82 rfl rfl ?_
        obtain ⟨g_27, ho_18⟩ := yf_g ho_18
        refine xr_aald (n := 84) C 3 0 rfl 4 rfl rfl g_27 rfl dX9_row_83 rfl ?_
        refine xr_iload_n (n := 85) (j := 4) C dX9_row_84 rfl rfl ?_
        obtain ⟨g_28, ho_18⟩ := yf_g ho_18
        refine xr_zaldg (n := 86) C 4 rfl i1.toNatClampNeg (ylt g_27) g_28 dX9_row_85 rfl ?_
        obtain ⟨r_34, hE_34, ho_18⟩ := yf_b ho_18
        have J_34 : X p l e (yR 7 4 40) s m args below meth c D A H0 5 Q [[(g, .inr (11, [.int x_7.2, .ref gw, .ref gB, .ref gK, .ref gU, .ref gS, .int gbe, .int gwo, .long gta, .null, .int glr, .int glc, .int gti, .int ggo, .ref gR, .int gch, .ref gD]))], [(gB, .inl (cy 4, 5, .inr (.inr (.inr (.inr (yad gBd))))))], xg_rows gBd 5 (cy 2) 5 gBG, [(gK, .inl (cy 4, 5, .inr (.inr (.inr (.inr (yad gKd))))))], xg_rows gKd 5 (cy 2) 5 gKG, [(q_12, .inr (1, [.ref q_17, .int 0, .int 0, .int s_18.2.1]))], [(q_17, .inl (cy 0, 16, .inl s_18.2.2))]] (0 + 1 + 1) (0 + 4 + 16) [(0, .ref g), (1, .int i1), (2, .ref q_12), (3, .int s_18.1)] 122 [.int r_34, .ref q_12] := by
          obtain ⟨x_35, hx_35, ho_18⟩ := yf_b ho_18
          refine xr_callV (n := 125) (As := [.int r_34]) (rest := []) C (kJ4_append_cf468 l D cy (h := q_12) (hv := q_17) (hc := s_18.2.1) (hf := s_18.2.2) (hn := 16) (i1 := r_34) hx_35) mJ4_append_cf468 u_1554 u_944 u_945 5 rfl rfl 7 [5, 6] [0, 1, 2, 3, 4] rfl (by decide +kernel) rfl rfl rfl rfl (Nat.le_of_ble_eq_true rfl) (Nat.le_of_ble_eq_true rfl) (Nat.le_of_ble_eq_true rfl) (Nat.le_of_ble_eq_true rfl) (Nat.le_of_ble_eq_true rfl) dX9_row_122 rfl (fun v_36 u_37 hp_38 => ?_)
          obtain ⟨rfl, rfl⟩ := hp_38
          refine xr_perm C 7 [2, 3, 4, 5, 6, 0, 1] [] [[(g, .inr (11, [.int x_7.2, .ref gw, .ref gB, .ref gK, .ref gU, .ref gS, .int gbe, .int gwo, .long gta, .null, .int glr, .int glc, .int gti, .int ggo, .ref gR, .int gch, .ref gD]))], [(gB, .inl (cy 4, 5, .inr (.inr (.inr (.inr (yad gBd))))))], xg_rows gBd 5 (cy 2) 5 gBG, [(gK, .inl (cy 4, 5, .inr (.inr (.inr (.inr (yad gKd))))))], xg_rows gKd 5 (cy 2) 5 gKG, [(q_12, .inr (1, [.ref q_17, .int 0, .int 0, .int x_35.1]))], [(q_17, .inl (cy 0, 16, .inl x_35.2))]] rfl (by decide +kernel) rfl ?_
          refine xr_st (st' := [.ref q_12]) rfl ?_
          refine xr_pop (n := 126) C dX9_row_125 rfl rfl ?_
          refine xr_iinc (j := 3) (v := s_18.1 + 1) (n := 129) C [(3, .int (s_18.1 + 1)), (0, .ref g), (1, .int i1), (2, .ref q_12)] dX9_row_126 rfl rfl (by decide) rfl rfl ?_
          refine xr_goto (tgt := 36) C dX9_row_129 rfl ?_
          refine xr_lv (lv' := [(0, .ref g), (1, .int i1), (2, .ref q_12), (3, .int (s_18.1 + 1))]) [1, 2, 3, 0] rfl ?_
          exact hk_18 (s_18.1 + 1, x_35.1, x_35.2) (Option.some.inj ho_18).symm
        refine xr_if_eq (tgt := 94) (n := 89) C dX9_row_86 rfl rfl (fun c_39 => ?_) (fun c_39 => ?_)
        · replace hE_34 := yf_t c_39 hE_34
          refine xr_aload_n (n := 95) (j := 1) C dX9_row_94 rfl rfl ?_
          refine xr_get (n := 98) C 0 rfl rfl 2 (by decide) in_X9 u_1239 rfl (v := .ref gB) rfl dX9_row_95 rfl ?_
          refine xr_iload_n (n := 99) (j := 2) C dX9_row_98 rfl rfl ?_
          obtain ⟨g_40, hE_34⟩ := yf_g hE_34
          refine xr_aald (n := 100) C 1 0 rfl 4 rfl rfl g_40 rfl dX9_row_99 rfl ?_
          refine xr_iload_n (n := 101) (j := 4) C dX9_row_100 rfl rfl ?_
          obtain ⟨g_41, hE_34⟩ := yf_g hE_34
          refine xr_zaldg (n := 102) C 2 rfl i1.toNatClampNeg (ylt g_40) g_41 dX9_row_101 rfl ?_
          refine xr_if_eq (tgt := 110) (n := 105) C dX9_row_102 rfl rfl (fun c_42 => ?_) (fun c_42 => ?_)
          · replace hE_34 := yf_t c_42 hE_34
            refine xr_iload (n := 112) (j := 0) C dX9_row_110 rfl rfl ?_
            refine xr_if_eq (tgt := 120) (n := 115) C dX9_row_112 rfl rfl (fun _ => ?_) (fun c_43 => absurd (by decide) c_43)
            refine xr_bipush (n := 122) (v := 46) C dX9_row_120 rfl rfl ?_
            refine xr_lv (lv' := [(0, .ref g), (1, .int i1), (2, .ref q_12), (3, .int s_18.1)]) [1, 2, 3, 4] rfl ?_
            have e_44 := Option.some.inj hE_34
            subst e_44
            exact J_34
          · replace hE_34 := yf_f c_42 hE_34
            refine xr_bipush (n := 107) (v := 63) C dX9_row_105 rfl rfl ?_
            refine xr_goto (tgt := 122) C dX9_row_107 rfl ?_
            refine xr_lv (lv' := [(0, .ref g), (1, .int i1), (2, .ref q_12), (3, .int s_18.1)]) [1, 2, 3, 4] rfl ?_
            have e_45 := Option.some.inj hE_34
            subst e_45
            exact J_34
        · replace hE_34 := yf_f c_39 hE_34
          refine xr_bipush (n := 91) (v := 120) C dX9_row_89 rfl rfl ?_
          refine xr_goto (tgt := 122) C dX9_row_91 rfl ?_
          refine xr_lv (lv' := [(0, .ref g), (1, .int i1), (2, .ref q_12), (3, .int s_18.1)]) [1, 2, 3, 4] rfl ?_
          have e_46 := Option.some.inj hE_34
          subst e_46
          exact J_34
    · replace hR := yf_f c_11 hR
      refine xr_ldcws (n := 25) (tx := "") C (by decide +kernel) dX9_row_22 rfl (fun q_47 => ?_)
      obtain rfl := Option.some.inj hR
      exact ret q_47 (Or.inr ⟨_, rfl, q_47, rfl, rfl⟩) (Nat.le_of_ble_eq_true rfl) (Nat.le_of_ble_eq_true rfl) dX9_row_25
  refine xr_if_ne (tgt := 14) (n := 10) C dX9_row_7 rfl rfl (fun c_48 => ?_) (fun c_48 => ?_)
  · replace hE_6 := yf_f c_48 hE_6
    refine xr_iconst (n := 15) (v := 0) C dX9_row_14 rfl rfl ?_
    have e_49 := Option.some.inj hE_6
    subst e_49
    exact J_6
  · replace hE_6 := yf_t c_48 hE_6
    refine xr_iconst (n := 11) (v := 1) C dX9_row_10 rfl rfl ?_
    refine xr_goto (tgt := 15) C dX9_row_11 rfl ?_
    have e_50 := Option.some.inj hE_6
    subst e_50
    exact J_6
