theorem u_43 : Cond.classLink RL 9 RX6 ∈ yU := yu 43 (by decide +kernel) (by decide +kernel)
theorem u_44 : Cond.instantiable RX6 6 ∈ yU := yu 44 (by decide +kernel) (by decide +kernel)
theorem u_45 : Cond.methodLink RL 11 yX6_init ∈ yU := yu 45 (by decide +kernel) (by decide +kernel)
theorem u_46 : Cond.instanceMethod yX6_init ∈ yU := yu 46 (by decide +kernel) (by decide +kernel)
theorem u_752 : Cond.methodLink RL 12 yL_cell ∈ yU := yu 752 (by decide +kernel) (by decide +kernel)
theorem u_753 : Cond.static yL_cell ∈ yU := yu 753 (by decide +kernel) (by decide +kernel)
theorem u_756 : Cond.methodLink RL 22 yL_act ∈ yU := yu 756 (by decide +kernel) (by decide +kernel)
theorem u_757 : Cond.static yL_act ∈ yU := yu 757 (by decide +kernel) (by decide +kernel)
theorem u_650 : Cond.methodLink RL 26 yX6_best ∈ yU := yu 650 (by decide +kernel) (by decide +kernel)
theorem u_651 : Cond.instanceMethod yX6_best ∈ yU := yu 651 (by decide +kernel) (by decide +kernel)
theorem u_652 : Cond.selects RX6 yX6_best yX6_best ∈ yU := yu 652 (by decide +kernel) (by decide +kernel)
theorem u_636 : Cond.methodLink RL 30 yX6_beats ∈ yU := yu 636 (by decide +kernel) (by decide +kernel)
theorem u_637 : Cond.instanceMethod yX6_beats ∈ yU := yu 637 (by decide +kernel) (by decide +kernel)
theorem u_638 : Cond.selects RX6 yX6_beats yX6_beats ∈ yU := yu 638 (by decide +kernel) (by decide +kernel)
theorem u_698 : Cond.methodLink RL 64 yX6_digest ∈ yU := yu 698 (by decide +kernel) (by decide +kernel)
theorem u_699 : Cond.instanceMethod yX6_digest ∈ yU := yu 699 (by decide +kernel) (by decide +kernel)
theorem u_700 : Cond.selects RX6 yX6_digest yX6_digest ∈ yU := yu 700 (by decide +kernel) (by decide +kernel)
theorem u_664 : Cond.methodLink RL 68 yX6_isSound ∈ yU := yu 664 (by decide +kernel) (by decide +kernel)
theorem u_665 : Cond.instanceMethod yX6_isSound ∈ yU := yu 665 (by decide +kernel) (by decide +kernel)
theorem u_666 : Cond.selects RX6 yX6_isSound yX6_isSound ∈ yU := yu 666 (by decide +kernel) (by decide +kernel)
theorem u_267 : Cond.methodLink RL 33 yX6_test ∈ yU := yu 267 (by decide +kernel) (by decide +kernel)
theorem u_268 : Cond.instanceMethod yX6_test ∈ yU := yu 268 (by decide +kernel) (by decide +kernel)
theorem u_269 : Cond.selects RX6 yX6_test yX6_test ∈ yU := yu 269 (by decide +kernel) (by decide +kernel)
theorem u_607 : Cond.methodLink RL 37 yX6_mesh ∈ yU := yu 607 (by decide +kernel) (by decide +kernel)
theorem u_608 : Cond.instanceMethod yX6_mesh ∈ yU := yu 608 (by decide +kernel) (by decide +kernel)
theorem u_609 : Cond.selects RX6 yX6_mesh yX6_mesh ∈ yU := yu 609 (by decide +kernel) (by decide +kernel)
theorem u_353 : Cond.methodLink RL 40 yX6_start ∈ yU := yu 353 (by decide +kernel) (by decide +kernel)
theorem u_354 : Cond.instanceMethod yX6_start ∈ yU := yu 354 (by decide +kernel) (by decide +kernel)
theorem u_355 : Cond.selects RX6 yX6_start yX6_start ∈ yU := yu 355 (by decide +kernel) (by decide +kernel)
theorem u_461 : Cond.methodLink RL 43 yX6_beat ∈ yU := yu 461 (by decide +kernel) (by decide +kernel)
theorem u_462 : Cond.instanceMethod yX6_beat ∈ yU := yu 462 (by decide +kernel) (by decide +kernel)
theorem u_463 : Cond.selects RX6 yX6_beat yX6_beat ∈ yU := yu 463 (by decide +kernel) (by decide +kernel)
theorem u_811 : Cond.methodLink RL 46 yJ9_max_7cf53 ∈ yU := yu 811 (by decide +kernel) (by decide +kernel)
theorem u_619 : Cond.methodLink RL 51 yX6_result ∈ yU := yu 619 (by decide +kernel) (by decide +kernel)
theorem u_620 : Cond.instanceMethod yX6_result ∈ yU := yu 620 (by decide +kernel) (by decide +kernel)
theorem u_621 : Cond.selects RX6 yX6_result yX6_result ∈ yU := yu 621 (by decide +kernel) (by decide +kernel)
theorem u_623 : Cond.methodLink RL 54 yX6_plain ∈ yU := yu 623 (by decide +kernel) (by decide +kernel)
theorem u_624 : Cond.instanceMethod yX6_plain ∈ yU := yu 624 (by decide +kernel) (by decide +kernel)
theorem u_625 : Cond.selects RX6 yX6_plain yX6_plain ∈ yU := yu 625 (by decide +kernel) (by decide +kernel)
theorem u_557 : Cond.methodLink RL 57 yX6_bend ∈ yU := yu 557 (by decide +kernel) (by decide +kernel)
theorem u_558 : Cond.instanceMethod yX6_bend ∈ yU := yu 558 (by decide +kernel) (by decide +kernel)
theorem u_559 : Cond.selects RX6 yX6_bend yX6_bend ∈ yU := yu 559 (by decide +kernel) (by decide +kernel)
theorem u_584 : Cond.methodLink RL 61 yX6_check ∈ yU := yu 584 (by decide +kernel) (by decide +kernel)
theorem u_585 : Cond.instanceMethod yX6_check ∈ yU := yu 585 (by decide +kernel) (by decide +kernel)
theorem u_586 : Cond.selects RX6 yX6_check yX6_check ∈ yU := yu 586 (by decide +kernel) (by decide +kernel)
theorem dL_law_0 : decode cL_law 0 = .ok (.new 9, 3) := by decide +kernel
theorem dL_law_3 : decode cL_law 3 = .ok (.dup, 1) := by decide +kernel
theorem dL_law_4 : decode cL_law 4 = .ok (.invokespecial 11, 3) := by decide +kernel
theorem dL_law_7 : decode cL_law 7 = .ok (.astore_n 1, 1) := by decide +kernel
theorem dL_law_8 : decode cL_law 8 = .ok (.iconst 0, 1) := by decide +kernel
theorem dL_law_9 : decode cL_law 9 = .ok (.istore_n 2, 1) := by decide +kernel
theorem dL_law_10 : decode cL_law 10 = .ok (.iload_n 2, 1) := by decide +kernel
theorem dL_law_11 : decode cL_law 11 = .ok (.bipush 40, 2) := by decide +kernel
theorem dL_law_13 : decode cL_law 13 = .ok (.if_icmp .ge 366, 3) := by decide +kernel
theorem dL_law_16 : decode cL_law 16 = .ok (.aload_n 0, 1) := by decide +kernel
theorem dL_law_17 : decode cL_law 17 = .ok (.iload_n 2, 1) := by decide +kernel
theorem dL_law_18 : decode cL_law 18 = .ok (.bipush 16, 2) := by decide +kernel
theorem dL_law_20 : decode cL_law 20 = .ok (.irem, 1) := by decide +kernel
theorem dL_law_21 : decode cL_law 21 = .ok (.invokestatic 12, 3) := by decide +kernel
theorem dL_law_24 : decode cL_law 24 = .ok (.bipush 43, 2) := by decide +kernel
theorem dL_law_26 : decode cL_law 26 = .ok (.iload_n 2, 1) := by decide +kernel
theorem dL_law_27 : decode cL_law 27 = .ok (.imul, 1) := by decide +kernel
theorem dL_law_28 : decode cL_law 28 = .ok (.iadd, 1) := by decide +kernel
theorem dL_law_29 : decode cL_law 29 = .ok (.istore_n 3, 1) := by decide +kernel
theorem dL_law_30 : decode cL_law 30 = .ok (.aload_n 1, 1) := by decide +kernel
theorem dL_law_31 : decode cL_law 31 = .ok (.iload_n 3, 1) := by decide +kernel
theorem dL_law_32 : decode cL_law 32 = .ok (.iconst 2, 1) := by decide +kernel
theorem dL_law_33 : decode cL_law 33 = .ok (.ishr, 1) := by decide +kernel
theorem dL_law_34 : decode cL_law 34 = .ok (.iload_n 2, 1) := by decide +kernel
theorem dL_law_35 : decode cL_law 35 = .ok (.iconst 1, 1) := by decide +kernel
theorem dL_law_36 : decode cL_law 36 = .ok (.if_icmp .ge 7, 3) := by decide +kernel
theorem dL_law_39 : decode cL_law 39 = .ok (.iconst 0, 1) := by decide +kernel
theorem dL_law_40 : decode cL_law 40 = .ok (.goto 9, 3) := by decide +kernel
theorem dL_law_43 : decode cL_law 43 = .ok (.iload_n 3, 1) := by decide +kernel
theorem dL_law_44 : decode cL_law 44 = .ok (.bipush 9, 2) := by decide +kernel
theorem dL_law_46 : decode cL_law 46 = .ok (.invokestatic 18, 3) := by decide +kernel
theorem dL_law_49 : decode cL_law 49 = .ok (.invokestatic 22, 3) := by decide +kernel
theorem dL_law_52 : decode cL_law 52 = .ok (.aload_n 1, 1) := by decide +kernel
theorem dL_law_53 : decode cL_law 53 = .ok (.iconst 0, 1) := by decide +kernel
theorem dL_law_54 : decode cL_law 54 = .ok (.invokevirtual 26, 3) := by decide +kernel
theorem dL_law_57 : decode cL_law 57 = .ok (.istore 4, 2) := by decide +kernel
theorem dL_law_59 : decode cL_law 59 = .ok (.aload_n 1, 1) := by decide +kernel
theorem dL_law_60 : decode cL_law 60 = .ok (.iconst 1, 1) := by decide +kernel
theorem dL_law_61 : decode cL_law 61 = .ok (.iload_n 3, 1) := by decide +kernel
theorem dL_law_62 : decode cL_law 62 = .ok (.iconst 3, 1) := by decide +kernel
theorem dL_law_63 : decode cL_law 63 = .ok (.ishr, 1) := by decide +kernel
theorem dL_law_64 : decode cL_law 64 = .ok (.bipush 31, 2) := by decide +kernel
theorem dL_law_66 : decode cL_law 66 = .ok (.invokestatic 18, 3) := by decide +kernel
theorem dL_law_69 : decode cL_law 69 = .ok (.iadd, 1) := by decide +kernel
theorem dL_law_70 : decode cL_law 70 = .ok (.iconst 1, 1) := by decide +kernel
theorem dL_law_71 : decode cL_law 71 = .ok (.iload_n 3, 1) := by decide +kernel
theorem dL_law_72 : decode cL_law 72 = .ok (.iconst 5, 1) := by decide +kernel
theorem dL_law_73 : decode cL_law 73 = .ok (.ishr, 1) := by decide +kernel
theorem dL_law_74 : decode cL_law 74 = .ok (.bipush 31, 2) := by decide +kernel
theorem dL_law_76 : decode cL_law 76 = .ok (.invokestatic 18, 3) := by decide +kernel
theorem dL_law_79 : decode cL_law 79 = .ok (.iadd, 1) := by decide +kernel
theorem dL_law_80 : decode cL_law 80 = .ok (.invokevirtual 30, 3) := by decide +kernel
theorem dL_law_83 : decode cL_law 83 = .ok (.istore 5, 2) := by decide +kernel
theorem dL_law_85 : decode cL_law 85 = .ok (.iload 5, 2) := by decide +kernel
theorem dL_law_87 : decode cL_law 87 = .ok (.ifCond .lt 17, 3) := by decide +kernel
theorem dL_law_90 : decode cL_law 90 = .ok (.iload 4, 2) := by decide +kernel
theorem dL_law_92 : decode cL_law 92 = .ok (.ifCond .lt 10, 3) := by decide +kernel
theorem dL_law_95 : decode cL_law 95 = .ok (.iload 5, 2) := by decide +kernel
theorem dL_law_97 : decode cL_law 97 = .ok (.iload 4, 2) := by decide +kernel
theorem dL_law_99 : decode cL_law 99 = .ok (.if_icmp .ge 5, 3) := by decide +kernel
theorem dL_law_102 : decode cL_law 102 = .ok (.iconst 0, 1) := by decide +kernel
theorem dL_law_103 : decode cL_law 103 = .ok (.ireturn, 1) := by decide +kernel
theorem dL_law_104 : decode cL_law 104 = .ok (.iload_n 2, 1) := by decide +kernel
theorem dL_law_105 : decode cL_law 105 = .ok (.iconst 3, 1) := by decide +kernel
theorem dL_law_106 : decode cL_law 106 = .ok (.irem, 1) := by decide +kernel
theorem dL_law_107 : decode cL_law 107 = .ok (.iconst 2, 1) := by decide +kernel
theorem dL_law_108 : decode cL_law 108 = .ok (.if_icmp .ne 231, 3) := by decide +kernel
theorem dL_law_111 : decode cL_law 111 = .ok (.aload_n 1, 1) := by decide +kernel
theorem dL_law_112 : decode cL_law 112 = .ok (.invokevirtual 33, 3) := by decide +kernel
theorem dL_law_115 : decode cL_law 115 = .ok (.pop, 1) := by decide +kernel
theorem dL_law_116 : decode cL_law 116 = .ok (.aload_n 1, 1) := by decide +kernel
theorem dL_law_117 : decode cL_law 117 = .ok (.iconst 0, 1) := by decide +kernel
theorem dL_law_118 : decode cL_law 118 = .ok (.invokevirtual 26, 3) := by decide +kernel
theorem dL_law_121 : decode cL_law 121 = .ok (.istore 6, 2) := by decide +kernel
theorem dL_law_123 : decode cL_law 123 = .ok (.aload_n 1, 1) := by decide +kernel
theorem dL_law_124 : decode cL_law 124 = .ok (.iconst 0, 1) := by decide +kernel
theorem dL_law_125 : decode cL_law 125 = .ok (.invokevirtual 37, 3) := by decide +kernel
theorem dL_law_128 : decode cL_law 128 = .ok (.aload_n 1, 1) := by decide +kernel
theorem dL_law_129 : decode cL_law 129 = .ok (.iconst 4, 1) := by decide +kernel
theorem dL_law_130 : decode cL_law 130 = .ok (.invokevirtual 37, 3) := by decide +kernel
theorem dL_law_133 : decode cL_law 133 = .ok (.iadd, 1) := by decide +kernel
theorem dL_law_134 : decode cL_law 134 = .ok (.istore 7, 2) := by decide +kernel
theorem dL_law_136 : decode cL_law 136 = .ok (.aload_n 1, 1) := by decide +kernel
theorem dL_law_137 : decode cL_law 137 = .ok (.iconst 2, 1) := by decide +kernel
theorem dL_law_138 : decode cL_law 138 = .ok (.invokevirtual 37, 3) := by decide +kernel
theorem dL_law_141 : decode cL_law 141 = .ok (.aload_n 1, 1) := by decide +kernel
theorem dL_law_142 : decode cL_law 142 = .ok (.iconst 4, 1) := by decide +kernel
theorem dL_law_143 : decode cL_law 143 = .ok (.invokevirtual 37, 3) := by decide +kernel
theorem dL_law_146 : decode cL_law 146 = .ok (.iadd, 1) := by decide +kernel
theorem dL_law_147 : decode cL_law 147 = .ok (.istore 8, 2) := by decide +kernel
theorem dL_law_149 : decode cL_law 149 = .ok (.iload 6, 2) := by decide +kernel
theorem dL_law_151 : decode cL_law 151 = .ok (.ifCond .lt 188, 3) := by decide +kernel
theorem dL_law_154 : decode cL_law 154 = .ok (.aload_n 1, 1) := by decide +kernel
theorem dL_law_155 : decode cL_law 155 = .ok (.invokevirtual 40, 3) := by decide +kernel
theorem dL_law_158 : decode cL_law 158 = .ok (.iload 6, 2) := by decide +kernel
theorem dL_law_160 : decode cL_law 160 = .ok (.if_icmp .eq 5, 3) := by decide +kernel
theorem dL_law_163 : decode cL_law 163 = .ok (.iconst 0, 1) := by decide +kernel
theorem dL_law_164 : decode cL_law 164 = .ok (.ireturn, 1) := by decide +kernel
theorem dL_law_165 : decode cL_law 165 = .ok (.iload 6, 2) := by decide +kernel
theorem dL_law_167 : decode cL_law 167 = .ok (.istore 9, 2) := by decide +kernel
theorem dL_law_169 : decode cL_law 169 = .ok (.iload 9, 2) := by decide +kernel
theorem dL_law_171 : decode cL_law 171 = .ok (.ifCond .le 29, 3) := by decide +kernel
theorem dL_law_174 : decode cL_law 174 = .ok (.aload_n 1, 1) := by decide +kernel
theorem dL_law_175 : decode cL_law 175 = .ok (.bipush 7, 2) := by decide +kernel
theorem dL_law_177 : decode cL_law 177 = .ok (.invokevirtual 43, 3) := by decide +kernel
theorem dL_law_180 : decode cL_law 180 = .ok (.iconst 0, 1) := by decide +kernel
theorem dL_law_181 : decode cL_law 181 = .ok (.iload 9, 2) := by decide +kernel
theorem dL_law_183 : decode cL_law 183 = .ok (.bipush 7, 2) := by decide +kernel
theorem dL_law_185 : decode cL_law 185 = .ok (.isub, 1) := by decide +kernel
theorem dL_law_186 : decode cL_law 186 = .ok (.invokestatic 46, 3) := by decide +kernel
theorem dL_law_189 : decode cL_law 189 = .ok (.if_icmp .eq 5, 3) := by decide +kernel
theorem dL_law_192 : decode cL_law 192 = .ok (.iconst 0, 1) := by decide +kernel
theorem dL_law_193 : decode cL_law 193 = .ok (.ireturn, 1) := by decide +kernel
theorem dL_law_194 : decode cL_law 194 = .ok (.iinc 9 (-7), 3) := by decide +kernel
theorem dL_law_197 : decode cL_law 197 = .ok (.goto (-28), 3) := by decide +kernel
theorem dL_law_200 : decode cL_law 200 = .ok (.iconst 0, 1) := by decide +kernel
theorem dL_law_201 : decode cL_law 201 = .ok (.istore 9, 2) := by decide +kernel
theorem dL_law_203 : decode cL_law 203 = .ok (.iload 9, 2) := by decide +kernel
theorem dL_law_205 : decode cL_law 205 = .ok (.iload 7, 2) := by decide +kernel
theorem dL_law_207 : decode cL_law 207 = .ok (.if_icmp .ge 46, 3) := by decide +kernel
theorem dL_law_210 : decode cL_law 210 = .ok (.iconst 0, 1) := by decide +kernel
theorem dL_law_211 : decode cL_law 211 = .ok (.istore 10, 2) := by decide +kernel
theorem dL_law_213 : decode cL_law 213 = .ok (.iload 10, 2) := by decide +kernel
theorem dL_law_215 : decode cL_law 215 = .ok (.iload 8, 2) := by decide +kernel
theorem dL_law_217 : decode cL_law 217 = .ok (.if_icmp .ge 30, 3) := by decide +kernel
theorem dL_law_220 : decode cL_law 220 = .ok (.aload_n 1, 1) := by decide +kernel
theorem dL_law_221 : decode cL_law 221 = .ok (.iload 9, 2) := by decide +kernel
theorem dL_law_223 : decode cL_law 223 = .ok (.iload 10, 2) := by decide +kernel
theorem dL_law_225 : decode cL_law 225 = .ok (.invokevirtual 51, 3) := by decide +kernel
theorem dL_law_228 : decode cL_law 228 = .ok (.aload_n 1, 1) := by decide +kernel
theorem dL_law_229 : decode cL_law 229 = .ok (.iload 9, 2) := by decide +kernel
theorem dL_law_231 : decode cL_law 231 = .ok (.iload 10, 2) := by decide +kernel
theorem dL_law_233 : decode cL_law 233 = .ok (.invokevirtual 54, 3) := by decide +kernel
theorem dL_law_236 : decode cL_law 236 = .ok (.if_icmp .eq 5, 3) := by decide +kernel
theorem dL_law_239 : decode cL_law 239 = .ok (.iconst 0, 1) := by decide +kernel
theorem dL_law_240 : decode cL_law 240 = .ok (.ireturn, 1) := by decide +kernel
theorem dL_law_241 : decode cL_law 241 = .ok (.iinc 10 1, 3) := by decide +kernel
theorem dL_law_244 : decode cL_law 244 = .ok (.goto (-31), 3) := by decide +kernel
theorem dL_law_247 : decode cL_law 247 = .ok (.iinc 9 1, 3) := by decide +kernel
theorem dL_law_250 : decode cL_law 250 = .ok (.goto (-47), 3) := by decide +kernel
theorem dL_law_253 : decode cL_law 253 = .ok (.iload_n 3, 1) := by decide +kernel
theorem dL_law_254 : decode cL_law 254 = .ok (.iconst 4, 1) := by decide +kernel
theorem dL_law_255 : decode cL_law 255 = .ok (.ishr, 1) := by decide +kernel
theorem dL_law_256 : decode cL_law 256 = .ok (.iload 7, 2) := by decide +kernel
theorem dL_law_258 : decode cL_law 258 = .ok (.invokestatic 18, 3) := by decide +kernel
theorem dL_law_261 : decode cL_law 261 = .ok (.istore 9, 2) := by decide +kernel
theorem dL_law_263 : decode cL_law 263 = .ok (.iload_n 3, 1) := by decide +kernel
theorem dL_law_264 : decode cL_law 264 = .ok (.bipush 6, 2) := by decide +kernel
theorem dL_law_266 : decode cL_law 266 = .ok (.ishr, 1) := by decide +kernel
theorem dL_law_267 : decode cL_law 267 = .ok (.iload 8, 2) := by decide +kernel
theorem dL_law_269 : decode cL_law 269 = .ok (.invokestatic 18, 3) := by decide +kernel
theorem dL_law_272 : decode cL_law 272 = .ok (.istore 10, 2) := by decide +kernel
theorem dL_law_274 : decode cL_law 274 = .ok (.aload_n 1, 1) := by decide +kernel
theorem dL_law_275 : decode cL_law 275 = .ok (.iconst 4, 1) := by decide +kernel
theorem dL_law_276 : decode cL_law 276 = .ok (.invokevirtual 37, 3) := by decide +kernel
theorem dL_law_279 : decode cL_law 279 = .ok (.iconst 1, 1) := by decide +kernel
theorem dL_law_280 : decode cL_law 280 = .ok (.if_icmp .ne 59, 3) := by decide +kernel
theorem dL_law_283 : decode cL_law 283 = .ok (.aload_n 1, 1) := by decide +kernel
theorem dL_law_284 : decode cL_law 284 = .ok (.iload 9, 2) := by decide +kernel
theorem dL_law_286 : decode cL_law 286 = .ok (.iload 10, 2) := by decide +kernel
theorem dL_law_288 : decode cL_law 288 = .ok (.iconst 1, 1) := by decide +kernel
theorem dL_law_289 : decode cL_law 289 = .ok (.iload_n 3, 1) := by decide +kernel
theorem dL_law_290 : decode cL_law 290 = .ok (.iconst 5, 1) := by decide +kernel
theorem dL_law_291 : decode cL_law 291 = .ok (.ishr, 1) := by decide +kernel
theorem dL_law_292 : decode cL_law 292 = .ok (.sipush 500, 3) := by decide +kernel
theorem dL_law_295 : decode cL_law 295 = .ok (.invokestatic 18, 3) := by decide +kernel
theorem dL_law_298 : decode cL_law 298 = .ok (.iadd, 1) := by decide +kernel
theorem dL_law_299 : decode cL_law 299 = .ok (.invokevirtual 57, 3) := by decide +kernel
theorem dL_law_302 : decode cL_law 302 = .ok (.pop, 1) := by decide +kernel
theorem dL_law_303 : decode cL_law 303 = .ok (.aload_n 1, 1) := by decide +kernel
theorem dL_law_304 : decode cL_law 304 = .ok (.invokevirtual 61, 3) := by decide +kernel
theorem dL_law_307 : decode cL_law 307 = .ok (.iconst 1, 1) := by decide +kernel
theorem dL_law_308 : decode cL_law 308 = .ok (.if_icmp .ne 29, 3) := by decide +kernel
theorem dL_law_311 : decode cL_law 311 = .ok (.aload_n 1, 1) := by decide +kernel
theorem dL_law_312 : decode cL_law 312 = .ok (.iload 9, 2) := by decide +kernel
theorem dL_law_314 : decode cL_law 314 = .ok (.iload 10, 2) := by decide +kernel
theorem dL_law_316 : decode cL_law 316 = .ok (.invokevirtual 51, 3) := by decide +kernel
theorem dL_law_319 : decode cL_law 319 = .ok (.aload_n 1, 1) := by decide +kernel
theorem dL_law_320 : decode cL_law 320 = .ok (.iload 9, 2) := by decide +kernel
theorem dL_law_322 : decode cL_law 322 = .ok (.iload 10, 2) := by decide +kernel
theorem dL_law_324 : decode cL_law 324 = .ok (.invokevirtual 54, 3) := by decide +kernel
theorem dL_law_327 : decode cL_law 327 = .ok (.if_icmp .ne 10, 3) := by decide +kernel
theorem dL_law_330 : decode cL_law 330 = .ok (.aload_n 1, 1) := by decide +kernel
theorem dL_law_331 : decode cL_law 331 = .ok (.invokevirtual 61, 3) := by decide +kernel
theorem dL_law_334 : decode cL_law 334 = .ok (.ifCond .eq 5, 3) := by decide +kernel
theorem dL_law_337 : decode cL_law 337 = .ok (.iconst 0, 1) := by decide +kernel
theorem dL_law_338 : decode cL_law 338 = .ok (.ireturn, 1) := by decide +kernel
theorem dL_law_339 : decode cL_law 339 = .ok (.iload_n 2, 1) := by decide +kernel
theorem dL_law_340 : decode cL_law 340 = .ok (.bipush 12, 2) := by decide +kernel
theorem dL_law_342 : decode cL_law 342 = .ok (.irem, 1) := by decide +kernel
theorem dL_law_343 : decode cL_law 343 = .ok (.bipush 11, 2) := by decide +kernel
theorem dL_law_345 : decode cL_law 345 = .ok (.if_icmp .ne 28, 3) := by decide +kernel
theorem dL_law_348 : decode cL_law 348 = .ok (.aload_n 1, 1) := by decide +kernel
theorem dL_law_349 : decode cL_law 349 = .ok (.invokevirtual 64, 3) := by decide +kernel
theorem dL_law_352 : decode cL_law 352 = .ok (.lstore 6, 2) := by decide +kernel
theorem dL_law_354 : decode cL_law 354 = .ok (.aload_n 1, 1) := by decide +kernel
theorem dL_law_355 : decode cL_law 355 = .ok (.invokevirtual 68, 3) := by decide +kernel
theorem dL_law_358 : decode cL_law 358 = .ok (.ifCond .eq 13, 3) := by decide +kernel
theorem dL_law_361 : decode cL_law 361 = .ok (.aload_n 1, 1) := by decide +kernel
theorem dL_law_362 : decode cL_law 362 = .ok (.invokevirtual 64, 3) := by decide +kernel
theorem dL_law_365 : decode cL_law 365 = .ok (.lload 6, 2) := by decide +kernel
theorem dL_law_367 : decode cL_law 367 = .ok (.lcmp, 1) := by decide +kernel
theorem dL_law_368 : decode cL_law 368 = .ok (.ifCond .eq 5, 3) := by decide +kernel
theorem dL_law_371 : decode cL_law 371 = .ok (.iconst 0, 1) := by decide +kernel
theorem dL_law_372 : decode cL_law 372 = .ok (.ireturn, 1) := by decide +kernel
theorem dL_law_373 : decode cL_law 373 = .ok (.iinc 2 1, 3) := by decide +kernel
theorem dL_law_376 : decode cL_law 376 = .ok (.goto (-366), 3) := by decide +kernel
theorem dL_law_379 : decode cL_law 379 = .ok (.iconst 1, 1) := by decide +kernel
theorem dL_law_380 : decode cL_law 380 = .ok (.ireturn, 1) := by decide +kernel
def fL_law (nL : Nat) (xs : Nat → Int32) : Option (Int32) := ((fX6_init).bind fun x_2 => ((wl (S := Int32 × (Nat → Int32) × (Nat → Nat → Int32) × Nat × Nat) (B := (Int32 × (Nat → Int32) × (Nat → Nat → Int32) × Nat × Nat) ⊕ Int32) (fun s_29 => (if s_29.2.2.2.1 ≤ 174 ∧ s_29.2.2.2.2 ≤ 1809 then (if 40 ≤ s_29.1 then some (.inr (.inl (s_29.1, s_29.2.1, s_29.2.2.1, s_29.2.2.2.1, s_29.2.2.2.2))) else (if ¬ (16 : Int32) = 0 then ((fL_cell nL xs (s_29.1 - s_29.1 / 16 * 16)).bind fun x_35 => ((((if 1 ≤ s_29.1 then ((fL_below (x_35 + (43 * s_29.1)) 9).bind fun x_423 => some x_423) else some 0) : Option (Int32))).bind fun r_41 => ((gL_act s_29.2.1 s_29.2.2.1 ((x_35 + (43 * s_29.1)) >>> ((2 : Int32) &&& 31)) r_41).bind fun x_42 => (if s_29.2.2.2.1 + 1 ≤ 174 ∧ s_29.2.2.2.2 + 6 ≤ 1809 then ((gX6_best x_42.1 x_42.2 0).bind fun x_47 => ((fL_below ((x_35 + (43 * s_29.1)) >>> ((3 : Int32) &&& 31)) 31).bind fun x_51 => ((fL_below ((x_35 + (43 * s_29.1)) >>> ((5 : Int32) &&& 31)) 31).bind fun x_55 => ((gX6_beats x_47.2.1 x_47.2.2 (1 + x_51) (1 + x_55)).bind fun x_59 => (if x_59.1 < 0 then (if ¬ (3 : Int32) = 0 then (if (s_29.1 - s_29.1 / 3 * 3) = 2 then ((gX6_test x_59.2.1 x_59.2.2).bind fun x_84 => ((gX6_best x_84.2.1 x_84.2.2 0).bind fun x_88 => ((gX6_mesh x_88.2.1 x_88.2.2 0).bind fun x_92 => ((gX6_mesh x_92.2.1 x_92.2.2 4).bind fun x_96 => ((gX6_mesh x_96.2.1 x_96.2.2 2).bind fun x_100 => ((gX6_mesh x_100.2.1 x_100.2.2 4).bind fun x_104 => (if x_88.1 < 0 then (if ¬ (12 : Int32) = 0 then (if (s_29.1 - s_29.1 / 12 * 12) = 11 then ((gX6_digest x_104.2.1 x_104.2.2).bind fun x_111 => ((gX6_isSound x_111.2.1 x_111.2.2).bind fun x_115 => (if x_115.1 = 0 then some (.inr (.inr 0)) else ((gX6_digest x_115.2.1 x_115.2.2).bind fun x_121 => (if (lg_cmp x_121.1 x_111.1) = 0 then some (.inl (s_29.1 + 1, x_121.2.1, x_121.2.2, s_29.2.2.2.1 + 1, s_29.2.2.2.2 + 6)) else some (.inr (.inr 0))))))) else some (.inl (s_29.1 + 1, x_104.2.1, x_104.2.2, s_29.2.2.2.1 + 1, s_29.2.2.2.2 + 6))) else none) else ((gX6_start x_104.2.1 x_104.2.2).bind fun x_127 => (if x_127.1 = x_88.1 then ((wl (S := Int32 × (Nat → Int32) × (Nat → Nat → Int32)) (B := (Int32 × (Nat → Int32) × (Nat → Nat → Int32)) ⊕ Int32) (fun s_132 => (if s_132.1 ≤ 0 then some (.inr (.inl (s_132.1, s_132.2.1, s_132.2.2))) else ((gX6_beat s_132.2.1 s_132.2.2 7).bind fun x_232 => (if x_232.1 = (xn_max 0 (s_132.1 - 7)) then (ylet (s_132.1 + (-7) : Int32) fun y_237 => some (.inl (y_237, x_232.2.1, x_232.2.2))) else some (.inr (.inr 0)))))) yFuel (x_88.1, x_127.2.1, x_127.2.2)).bind fun b_132 => ybr b_132 (fun z_132 => ((wl (S := Int32 × (Nat → Int32) × (Nat → Nat → Int32)) (B := (Int32 × (Nat → Int32) × (Nat → Nat → Int32)) ⊕ Int32) (fun s_133 => (if (x_92.1 + x_96.1) ≤ s_133.1 then some (.inr (.inl (s_133.1, s_133.2.1, s_133.2.2))) else ((wl (S := Int32 × (Nat → Int32) × (Nat → Nat → Int32)) (B := (Int32 × (Nat → Int32) × (Nat → Nat → Int32)) ⊕ Int32) (fun s_215 => (if (x_100.1 + x_104.1) ≤ s_215.1 then some (.inr (.inl (s_215.1, s_215.2.1, s_215.2.2))) else ((gX6_result s_215.2.1 s_215.2.2 s_133.1 s_215.1).bind fun x_218 => ((gX6_plain x_218.2.1 x_218.2.2 s_133.1 s_215.1).bind fun x_222 => (if x_218.1 = x_222.1 then some (.inl (s_215.1 + 1, x_222.2.1, x_222.2.2)) else some (.inr (.inr 0))))))) yFuel (0, s_133.2.1, s_133.2.2)).bind fun b_215 => ybr b_215 (fun z_215 => some (.inl (s_133.1 + 1, z_215.2.1, z_215.2.2))) (fun r => some (.inr (.inr r)))))) yFuel (0, z_132.2.1, z_132.2.2)).bind fun b_133 => ybr b_133 (fun z_133 => ((fL_below ((x_35 + (43 * s_29.1)) >>> ((4 : Int32) &&& 31)) (x_92.1 + x_96.1)).bind fun x_134 => ((fL_below ((x_35 + (43 * s_29.1)) >>> ((6 : Int32) &&& 31)) (x_100.1 + x_104.1)).bind fun x_138 => ((gX6_mesh z_133.2.1 z_133.2.2 4).bind fun x_142 => (if x_142.1 = 1 then ((fL_below ((x_35 + (43 * s_29.1)) >>> ((5 : Int32) &&& 31)) 500).bind fun x_165 => ((gX6_bend x_142.2.1 x_142.2.2 x_134 x_138 (1 + x_165)).bind fun x_169 => ((gX6_check x_169.2.1 x_169.2.2).bind fun x_173 => (if x_173.1 = 1 then ((gX6_result x_173.2.1 x_173.2.2 x_134 x_138).bind fun x_179 => ((gX6_plain x_179.2.1 x_179.2.2 x_134 x_138).bind fun x_183 => (if x_179.1 = x_183.1 then ((gX6_check x_183.2.1 x_183.2.2).bind fun x_189 => (if x_189.1 = 0 then (if ¬ (12 : Int32) = 0 then (if (s_29.1 - s_29.1 / 12 * 12) = 11 then ((gX6_digest x_189.2.1 x_189.2.2).bind fun x_196 => ((gX6_isSound x_196.2.1 x_196.2.2).bind fun x_200 => (if x_200.1 = 0 then some (.inr (.inr 0)) else ((gX6_digest x_200.2.1 x_200.2.2).bind fun x_206 => (if (lg_cmp x_206.1 x_196.1) = 0 then some (.inl (s_29.1 + 1, x_206.2.1, x_206.2.2, s_29.2.2.2.1 + 1, s_29.2.2.2.2 + 6)) else some (.inr (.inr 0))))))) else some (.inl (s_29.1 + 1, x_189.2.1, x_189.2.2, s_29.2.2.2.1 + 1, s_29.2.2.2.2 + 6))) else none) else some (.inr (.inr 0)))) else some (.inr (.inr 0))))) else some (.inr (.inr 0)))))) else (if ¬ (12 : Int32) = 0 then (if (s_29.1 - s_29.1 / 12 * 12) = 11 then ((gX6_digest x_142.2.1 x_142.2.2).bind fun x_149 => ((gX6_isSound x_149.2.1 x_149.2.2).bind fun x_153 => (if x_153.1 = 0 then some (.inr (.inr 0)) else ((gX6_digest x_153.2.1 x_153.2.2).bind fun x_159 => (if (lg_cmp x_159.1 x_149.1) = 0 then some (.inl (s_29.1 + 1, x_159.2.1, x_159.2.2, s_29.2.2.2.1 + 1, s_29.2.2.2.2 + 6)) else some (.inr (.inr 0))))))) else some (.inl (s_29.1 + 1, x_142.2.1, x_142.2.2, s_29.2.2.2.1 + 1, s_29.2.2.2.2 + 6))) else none)))))) (fun r => some (.inr (.inr r))))) (fun r => some (.inr (.inr r)))) else some (.inr (.inr 0))))))))))) else (if ¬ (12 : Int32) = 0 then (if (s_29.1 - s_29.1 / 12 * 12) = 11 then ((gX6_digest x_59.2.1 x_59.2.2).bind fun x_68 => ((gX6_isSound x_68.2.1 x_68.2.2).bind fun x_72 => (if x_72.1 = 0 then some (.inr (.inr 0)) else ((gX6_digest x_72.2.1 x_72.2.2).bind fun x_78 => (if (lg_cmp x_78.1 x_68.1) = 0 then some (.inl (s_29.1 + 1, x_78.2.1, x_78.2.2, s_29.2.2.2.1 + 1, s_29.2.2.2.2 + 6)) else some (.inr (.inr 0))))))) else some (.inl (s_29.1 + 1, x_59.2.1, x_59.2.2, s_29.2.2.2.1 + 1, s_29.2.2.2.2 + 6))) else none)) else none) else (if x_47.1 < 0 then some (.inr (.inr 0)) else (if x_47.1 ≤ x_59.1 then (if ¬ (3 : Int32) = 0 then (if (s_29.1 - s_29.1 / 3 * 3) = 2 then ((gX6_test x_59.2.1 x_59.2.2).bind fun x_264 => ((gX6_best x_264.2.1 x_264.2.2 0).bind fun x_268 => ((gX6_mesh x_268.2.1 x_268.2.2 0).bind fun x_272 => ((gX6_mesh x_272.2.1 x_272.2.2 4).bind fun x_276 => ((gX6_mesh x_276.2.1 x_276.2.2 2).bind fun x_280 => ((gX6_mesh x_280.2.1 x_280.2.2 4).bind fun x_284 => (if x_268.1 < 0 then (if ¬ (12 : Int32) = 0 then (if (s_29.1 - s_29.1 / 12 * 12) = 11 then ((gX6_digest x_284.2.1 x_284.2.2).bind fun x_291 => ((gX6_isSound x_291.2.1 x_291.2.2).bind fun x_295 => (if x_295.1 = 0 then some (.inr (.inr 0)) else ((gX6_digest x_295.2.1 x_295.2.2).bind fun x_301 => (if (lg_cmp x_301.1 x_291.1) = 0 then some (.inl (s_29.1 + 1, x_301.2.1, x_301.2.2, s_29.2.2.2.1 + 1, s_29.2.2.2.2 + 6)) else some (.inr (.inr 0))))))) else some (.inl (s_29.1 + 1, x_284.2.1, x_284.2.2, s_29.2.2.2.1 + 1, s_29.2.2.2.2 + 6))) else none) else ((gX6_start x_284.2.1 x_284.2.2).bind fun x_307 => (if x_307.1 = x_268.1 then ((wl (S := Int32 × (Nat → Int32) × (Nat → Nat → Int32)) (B := (Int32 × (Nat → Int32) × (Nat → Nat → Int32)) ⊕ Int32) (fun s_312 => (if s_312.1 ≤ 0 then some (.inr (.inl (s_312.1, s_312.2.1, s_312.2.2))) else ((gX6_beat s_312.2.1 s_312.2.2 7).bind fun x_412 => (if x_412.1 = (xn_max 0 (s_312.1 - 7)) then (ylet (s_312.1 + (-7) : Int32) fun y_417 => some (.inl (y_417, x_412.2.1, x_412.2.2))) else some (.inr (.inr 0)))))) yFuel (x_268.1, x_307.2.1, x_307.2.2)).bind fun b_312 => ybr b_312 (fun z_312 => ((wl (S := Int32 × (Nat → Int32) × (Nat → Nat → Int32)) (B := (Int32 × (Nat → Int32) × (Nat → Nat → Int32)) ⊕ Int32) (fun s_313 => (if (x_272.1 + x_276.1) ≤ s_313.1 then some (.inr (.inl (s_313.1, s_313.2.1, s_313.2.2))) else ((wl (S := Int32 × (Nat → Int32) × (Nat → Nat → Int32)) (B := (Int32 × (Nat → Int32) × (Nat → Nat → Int32)) ⊕ Int32) (fun s_395 => (if (x_280.1 + x_284.1) ≤ s_395.1 then some (.inr (.inl (s_395.1, s_395.2.1, s_395.2.2))) else ((gX6_result s_395.2.1 s_395.2.2 s_313.1 s_395.1).bind fun x_398 => ((gX6_plain x_398.2.1 x_398.2.2 s_313.1 s_395.1).bind fun x_402 => (if x_398.1 = x_402.1 then some (.inl (s_395.1 + 1, x_402.2.1, x_402.2.2)) else some (.inr (.inr 0))))))) yFuel (0, s_313.2.1, s_313.2.2)).bind fun b_395 => ybr b_395 (fun z_395 => some (.inl (s_313.1 + 1, z_395.2.1, z_395.2.2))) (fun r => some (.inr (.inr r)))))) yFuel (0, z_312.2.1, z_312.2.2)).bind fun b_313 => ybr b_313 (fun z_313 => ((fL_below ((x_35 + (43 * s_29.1)) >>> ((4 : Int32) &&& 31)) (x_272.1 + x_276.1)).bind fun x_314 => ((fL_below ((x_35 + (43 * s_29.1)) >>> ((6 : Int32) &&& 31)) (x_280.1 + x_284.1)).bind fun x_318 => ((gX6_mesh z_313.2.1 z_313.2.2 4).bind fun x_322 => (if x_322.1 = 1 then ((fL_below ((x_35 + (43 * s_29.1)) >>> ((5 : Int32) &&& 31)) 500).bind fun x_345 => ((gX6_bend x_322.2.1 x_322.2.2 x_314 x_318 (1 + x_345)).bind fun x_349 => ((gX6_check x_349.2.1 x_349.2.2).bind fun x_353 => (if x_353.1 = 1 then ((gX6_result x_353.2.1 x_353.2.2 x_314 x_318).bind fun x_359 => ((gX6_plain x_359.2.1 x_359.2.2 x_314 x_318).bind fun x_363 => (if x_359.1 = x_363.1 then ((gX6_check x_363.2.1 x_363.2.2).bind fun x_369 => (if x_369.1 = 0 then (if ¬ (12 : Int32) = 0 then (if (s_29.1 - s_29.1 / 12 * 12) = 11 then ((gX6_digest x_369.2.1 x_369.2.2).bind fun x_376 => ((gX6_isSound x_376.2.1 x_376.2.2).bind fun x_380 => (if x_380.1 = 0 then some (.inr (.inr 0)) else ((gX6_digest x_380.2.1 x_380.2.2).bind fun x_386 => (if (lg_cmp x_386.1 x_376.1) = 0 then some (.inl (s_29.1 + 1, x_386.2.1, x_386.2.2, s_29.2.2.2.1 + 1, s_29.2.2.2.2 + 6)) else some (.inr (.inr 0))))))) else some (.inl (s_29.1 + 1, x_369.2.1, x_369.2.2, s_29.2.2.2.1 + 1, s_29.2.2.2.2 + 6))) else none) else some (.inr (.inr 0)))) else some (.inr (.inr 0))))) else some (.inr (.inr 0)))))) else (if ¬ (12 : Int32) = 0 then (if (s_29.1 - s_29.1 / 12 * 12) = 11 then ((gX6_digest x_322.2.1 x_322.2.2).bind fun x_329 => ((gX6_isSound x_329.2.1 x_329.2.2).bind fun x_333 => (if x_333.1 = 0 then some (.inr (.inr 0)) else ((gX6_digest x_333.2.1 x_333.2.2).bind fun x_339 => (if (lg_cmp x_339.1 x_329.1) = 0 then some (.inl (s_29.1 + 1, x_339.2.1, x_339.2.2, s_29.2.2.2.1 + 1, s_29.2.2.2.2 + 6)) else some (.inr (.inr 0))))))) else some (.inl (s_29.1 + 1, x_322.2.1, x_322.2.2, s_29.2.2.2.1 + 1, s_29.2.2.2.2 + 6))) else none)))))) (fun r => some (.inr (.inr r))))) (fun r => some (.inr (.inr r)))) else some (.inr (.inr 0))))))))))) else (if ¬ (12 : Int32) = 0 then (if (s_29.1 - s_29.1 / 12 * 12) = 11 then ((gX6_digest x_59.2.1 x_59.2.2).bind fun x_248 => ((gX6_isSound x_248.2.1 x_248.2.2).bind fun x_252 => (if x_252.1 = 0 then some (.inr (.inr 0)) else ((gX6_digest x_252.2.1 x_252.2.2).bind fun x_258 => (if (lg_cmp x_258.1 x_248.1) = 0 then some (.inl (s_29.1 + 1, x_258.2.1, x_258.2.2, s_29.2.2.2.1 + 1, s_29.2.2.2.2 + 6)) else some (.inr (.inr 0))))))) else some (.inl (s_29.1 + 1, x_59.2.1, x_59.2.2, s_29.2.2.2.1 + 1, s_29.2.2.2.2 + 6))) else none)) else none) else some (.inr (.inr 0))))))))) else none)))) else none)) else none)) yFuel (0, CN0, CT0, 0 + 1 + 22, 0 + 6 + 637)).bind fun b_29 => ybr b_29 (fun z_29 => (if z_29.2.2.2.1 ≤ 174 ∧ z_29.2.2.2.2 ≤ 1809 then some 1 else none)) (fun r => some r)))
set_option maxHeartbeats 4000000 in
set_option maxRecDepth 100000 in
theorem kL_law (l : Launch) (D : va_G) (cy : Nat → ClassId) (hl0 : l.stackTraces = false) (b nL : Nat) (xs : Nat → Int32) {res : Int32} (hR : fL_law nL xs = some res) {p : Program} {e : Env} {s : State} {m : MethodId} {args : Array Value} {below : List Frame} {meth : Method} {c : Code} {A : Nat → Prop} {H0 : Heap} {Q : State → Prop} (C : YC p s m args c cL_law RL D cy 11 A H0) (hX : va_X b nL xs s H0) (hbl : b < H0.size) (hbA : ¬ A b) (ret : ∀ {u : List va_W} {cells slots : Nat} {lv : List (Nat × Value)} {pc : Nat} (v : Int32), v = res → cells ≤ 174 → slots ≤ 1809 → decode cL_law pc = .ok (.ireturn, 1) → X p l e room_1 s m args below meth c D A H0 11 Q u cells slots lv pc [.int v]) : X p l e room_1 s m args below meth c D A H0 11 Q [] 0 0 [(0, .ref b)] 0 [] := by
  unfold fL_law at hR
  refine xr_new (n := 3) (ci := 6) C tyX6 tyX6_ok in_X6 u_43 u_44 u_28 rfl [.null, .null, .null, .null, .null, .null] (by decide) (Nat.le_of_ble_eq_true rfl) (Nat.le_of_ble_eq_true rfl) dL_law_0 rfl (fun q_1 => ?_)
  refine xr_eq (bs' := [[(q_1, .inr (6, [.null, .null, .null, .null, .null, .null]))]]) rfl ?_
  refine xr_dup (n := 4) C dL_law_3 rfl rfl ?_
  obtain ⟨x_2, hx_2, hR⟩ := yf_b hR
  refine xr_callI (n := 7) (As := []) (rest := [.ref q_1]) C (kX6_init l D cy (x := q_1) hx_2) mX6_init u_45 u_46 rfl 1 [0] [] rfl (by decide +kernel) rfl rfl rfl rfl (Nat.le_of_ble_eq_true rfl) (Nat.le_of_ble_eq_true rfl) (Nat.le_of_ble_eq_true rfl) (Nat.le_of_ble_eq_true rfl) (Nat.le_of_ble_eq_true rfl) dL_law_4 rfl (fun v_3 u_4 hp_5 => ?_)
  obtain ⟨q_6, q_7, q_8, q_9, q_10, q_11, q_12, q_13, q_14, q_15, q_16, q_17, q_18, q_19, q_20, q_21, q_22, q_23, q_24, q_25, q_26, q_27, rfl, rfl⟩ := hp_5
  refine xr_perm C 23 [0, 1, 2, 3, 4, 5, 6, 7, 8, 9, 10, 11, 12, 13, 14, 15, 16, 17, 18, 19, 20, 21, 22] [] [[(q_1, .inr (6, [.ref q_6, .ref q_7, .ref q_8, .ref q_9, .ref q_10, .ref q_11]))], [(q_6, .inr (1, [.ref q_12, .ref q_13, .int 2, .int 2, .int 2, .int 0, .int 0]))], [(q_12, .inr (4, [.ref q_14]))], [(q_14, .inl (cy 1, 81, .inl (fun _ => 0)))], [(q_13, .inr (4, [.ref q_15]))], [(q_15, .inl (cy 1, 81, .inl (fun _ => 0)))], [(q_7, .inr (0, [.ref q_16, .ref q_17, .int 0, .int 0]))], [(q_16, .inr (4, [.ref q_18]))], [(q_18, .inl (cy 1, 81, .inl (fun _ => 0)))], [(q_17, .inr (4, [.ref q_19]))], [(q_19, .inl (cy 1, 81, .inl (fun _ => 0)))], [(q_8, .inr (3, [.ref q_20, .int 0, .int 0, .int 0]))], [(q_20, .inr (4, [.ref q_21]))], [(q_21, .inl (cy 1, 81, .inl (fun _ => 0)))], [(q_9, .inr (5, [.ref q_22, .ref q_23, .int 0, .int 0, .int 0, .int 0, .int 0, .int 0, .int 0, .int 0, .int 0]))], [(q_22, .inr (1, [.ref q_24, .ref q_25, .int 2, .int 2, .int 2, .int 0, .int 0]))], [(q_24, .inr (4, [.ref q_26]))], [(q_26, .inl (cy 1, 81, .inl (fun _ => 0)))], [(q_25, .inr (4, [.ref q_27]))], [(q_27, .inl (cy 1, 81, .inl (fun _ => 0)))], [(q_23, .inr (2, [.int 0, .int 0, .int 0, .int 0, .int 0, .int 0, .int 0, .int 0, .int 0, .int 0]))], [(q_10, .inr (2, [.int 0, .int 0, .int 0, .int 0, .int 0, .int 0, .int 0, .int 0, .int 0, .int 0]))], [(q_11, .inr (2, [.int 0, .int 0, .int 0, .int 0, .int 0, .int 0, .int 0, .int 0, .int 0, .int 0]))]] rfl (by decide +kernel) rfl ?_
  obtain ⟨z_28, rfl, rfl, rfl, rfl, rfl, rfl, rfl, rfl, rfl, rfl, rfl, rfl, rfl, rfl, rfl, rfl, rfl, rfl, rfl, rfl, rfl, rfl⟩ : ∃ z_28 : Nat → Nat, z_28 0 = q_6 ∧ z_28 1 = q_7 ∧ z_28 2 = q_8 ∧ z_28 3 = q_9 ∧ z_28 4 = q_10 ∧ z_28 5 = q_11 ∧ z_28 6 = q_12 ∧ z_28 7 = q_13 ∧ z_28 8 = q_14 ∧ z_28 9 = q_15 ∧ z_28 10 = q_16 ∧ z_28 11 = q_17 ∧ z_28 12 = q_18 ∧ z_28 13 = q_19 ∧ z_28 14 = q_20 ∧ z_28 15 = q_21 ∧ z_28 16 = q_22 ∧ z_28 17 = q_23 ∧ z_28 18 = q_24 ∧ z_28 19 = q_25 ∧ z_28 20 = q_26 ∧ z_28 21 = q_27 := ⟨fun i => match i with | 0 => q_6 | 1 => q_7 | 2 => q_8 | 3 => q_9 | 4 => q_10 | 5 => q_11 | 6 => q_12 | 7 => q_13 | 8 => q_14 | 9 => q_15 | 10 => q_16 | 11 => q_17 | 12 => q_18 | 13 => q_19 | 14 => q_20 | 15 => q_21 | 16 => q_22 | 17 => q_23 | 18 => q_24 | 19 => q_25 | 20 => q_26 | 21 => q_27 | _ => 0, rfl, rfl, rfl, rfl, rfl, rfl, rfl, rfl, rfl, rfl, rfl, rfl, rfl, rfl, rfl, rfl, rfl, rfl, rfl, rfl, rfl, rfl⟩
  refine xr_perm C 23 [0, 1, 2, 3, 4, 5, 6, 7, 8, 9, 10, 11, 12, 13, 14, 15, 16, 17, 18, 19, 20, 21, 22] [] [[(q_1, .inr (6, [.ref (z_28 0), .ref (z_28 1), .ref (z_28 2), .ref (z_28 3), .ref (z_28 4), .ref (z_28 5)]))], [((z_28 0), .inr (1, [.ref (z_28 6), .ref (z_28 7), .int 2, .int 2, .int 2, .int 0, .int 0]))], [((z_28 6), .inr (4, [.ref (z_28 8)]))], [((z_28 8), .inl (cy 1, 81, .inl (fun _ => 0)))], [((z_28 7), .inr (4, [.ref (z_28 9)]))], [((z_28 9), .inl (cy 1, 81, .inl (fun _ => 0)))], [((z_28 1), .inr (0, [.ref (z_28 10), .ref (z_28 11), .int 0, .int 0]))], [((z_28 10), .inr (4, [.ref (z_28 12)]))], [((z_28 12), .inl (cy 1, 81, .inl (fun _ => 0)))], [((z_28 11), .inr (4, [.ref (z_28 13)]))], [((z_28 13), .inl (cy 1, 81, .inl (fun _ => 0)))], [((z_28 2), .inr (3, [.ref (z_28 14), .int 0, .int 0, .int 0]))], [((z_28 14), .inr (4, [.ref (z_28 15)]))], [((z_28 15), .inl (cy 1, 81, .inl (fun _ => 0)))], [((z_28 3), .inr (5, [.ref (z_28 16), .ref (z_28 17), .int 0, .int 0, .int 0, .int 0, .int 0, .int 0, .int 0, .int 0, .int 0]))], [((z_28 16), .inr (1, [.ref (z_28 18), .ref (z_28 19), .int 2, .int 2, .int 2, .int 0, .int 0]))], [((z_28 18), .inr (4, [.ref (z_28 20)]))], [((z_28 20), .inl (cy 1, 81, .inl (fun _ => 0)))], [((z_28 19), .inr (4, [.ref (z_28 21)]))], [((z_28 21), .inl (cy 1, 81, .inl (fun _ => 0)))], [((z_28 17), .inr (2, [.int 0, .int 0, .int 0, .int 0, .int 0, .int 0, .int 0, .int 0, .int 0, .int 0]))], [((z_28 4), .inr (2, [.int 0, .int 0, .int 0, .int 0, .int 0, .int 0, .int 0, .int 0, .int 0, .int 0]))], [((z_28 5), .inr (2, [.int 0, .int 0, .int 0, .int 0, .int 0, .int 0, .int 0, .int 0, .int 0, .int 0]))]] rfl (by decide +kernel) rfl ?_
  refine xr_pack (CWL q_1 z_28 cy CN0 CT0) [] rfl ?_
  refine xr_eq (bs' := [CW q_1 z_28 cy CN0 CT0]) rfl ?_
  refine xr_astore_n (n := 8) C [(1, .ref q_1), (0, .ref b)] dL_law_7 (by decide) rfl rfl ?_
  refine xr_iconst (n := 9) (v := 0) C dL_law_8 rfl rfl ?_
  refine xr_istore_n (n := 10) C [(2, .int 0), (1, .ref q_1), (0, .ref b)] dL_law_9 (by decide) rfl rfl ?_
  refine xr_lv (lv' := [(0, .ref b), (1, .ref q_1), (2, .int 0)]) [2, 1, 0] rfl ?_
  obtain ⟨b_29, hb_29, hR⟩ := yf_b hR
  have K_29 : ∀ z_29, b_29 = .inl z_29 → X p l e room_1 s m args below meth c D A H0 11 Q [CW q_1 z_28 cy z_29.2.1 z_29.2.2.1] z_29.2.2.2.1 z_29.2.2.2.2 [] 379 [] := by
    intro z_29 e_29; subst e_29; replace hR := ybr_l hR
    obtain ⟨g_30, hR⟩ := yf_g hR
    refine xr_iconst (n := 380) (v := 1) C dL_law_379 rfl rfl ?_
    obtain rfl := Option.some.inj hR
    exact ret 1 rfl g_30.1 g_30.2 dL_law_380
  refine y_loop (P := fun s_29 => X p l e room_1 s m args below meth c D A H0 11 Q [CW q_1 z_28 cy s_29.2.1 s_29.2.2.1] s_29.2.2.2.1 s_29.2.2.2.2 [(0, .ref b), (1, .ref q_1), (2, .int s_29.1)] 10 []) ?_ _ _ hb_29
  intro s_29 o_29 ho_29 hk_29 hx_29
  obtain ⟨g_31, ho_29⟩ := yf_g ho_29
  refine xr_iload_n (n := 11) (j := 2) C dL_law_10 rfl rfl ?_
  refine xr_bipush (n := 13) (v := 40) C dL_law_11 rfl rfl ?_
  refine xr_icmp_ge (tgt := 379) (n := 16) C dL_law_13 rfl rfl (fun c_32 => ?_) (fun c_32 => ?_)
  · replace ho_29 := yf_t c_32 ho_29
    refine xr_lv (lv' := []) [] rfl ?_
    have e_33 := hx_29 _ (Option.some.inj ho_29).symm
    exact K_29 _ e_33.symm
  · replace ho_29 := yf_f c_32 ho_29
    refine xr_aload_n (n := 17) (j := 0) C dL_law_16 rfl rfl ?_
    refine xr_iload_n (n := 18) (j := 2) C dL_law_17 rfl rfl ?_
    refine xr_bipush (n := 20) (v := 16) C dL_law_18 rfl rfl ?_
    obtain ⟨g_34, ho_29⟩ := yf_g ho_29
    refine xr_irem (n := 21) C dL_law_20 g_34 rfl ?_
    obtain ⟨x_35, hx_35, ho_29⟩ := yf_b ho_29
    refine xr_cell (n := 24) C hX hbl hbA (kL_cell l D cy b nL xs hx_35) mL_cell u_752 u_753 (Nat.le_of_ble_eq_true rfl) (Nat.le_of_ble_eq_true rfl) (Nat.le_of_ble_eq_true rfl) g_31.1 g_31.2 dL_law_21 rfl ?_
    refine xr_bipush (n := 26) (v := 43) C dL_law_24 rfl rfl ?_
    refine xr_iload_n (n := 27) (j := 2) C dL_law_26 rfl rfl ?_
    refine xr_imul (n := 28) C dL_law_27 rfl ?_
    refine xr_iadd (n := 29) C dL_law_28 rfl ?_
    refine xr_istore_n (n := 30) C [(3, .int (x_35 + (43 * s_29.1))), (0, .ref b), (1, .ref q_1), (2, .int s_29.1)] dL_law_29 (by decide) rfl rfl ?_
    refine xr_aload_n (n := 31) (j := 2) C dL_law_30 rfl rfl ?_
    refine xr_iload_n (n := 32) (j := 0) C dL_law_31 rfl rfl ?_
    refine xr_iconst (n := 33) (v := 2) C dL_law_32 rfl rfl ?_
    refine xr_ishr (n := 34) C dL_law_33 rfl ?_
    refine xr_iload_n (n := 35) (j := 3) C dL_law_34 rfl rfl ?_
    refine xr_iconst (n := 36) (v := 1) C dL_law_35 rfl rfl ?_
    obtain ⟨r_41, hE_41, ho_29⟩ := yf_b ho_29
    have J_41 : X p l e room_1 s m args below meth c D A H0 11 Q [CW q_1 z_28 cy s_29.2.1 s_29.2.2.1] s_29.2.2.2.1 s_29.2.2.2.2 [(0, .ref b), (1, .ref q_1), (2, .int s_29.1), (3, .int (x_35 + (43 * s_29.1)))] 49 [.int r_41, .int ((x_35 + (43 * s_29.1)) >>> ((2 : Int32) &&& 31)), .ref q_1] := by
      obtain ⟨x_42, hx_42, ho_29⟩ := yf_b ho_29
      obtain ⟨g_43, ho_29⟩ := yf_g ho_29
      refine xr_callSW (n := 52) (As := [.ref q_1, .int ((x_35 + (43 * s_29.1)) >>> ((2 : Int32) &&& 31)), .int r_41]) (rest := []) C (kgL_act l D cy hl0 (x := q_1) (a := z_28) (n := s_29.2.1) (t := s_29.2.2.1) (i1 := (x_35 + (43 * s_29.1)) >>> ((2 : Int32) &&& 31)) (i2 := r_41) hx_42) mL_act u_756 u_757 1 [0] [] rfl (by decide +kernel) rfl rfl rfl rfl (Nat.le_of_ble_eq_true rfl) (Nat.le_of_ble_eq_true rfl) (Nat.le_of_ble_eq_true rfl) g_43.1 g_43.2 dL_law_49 rfl (fun v_44 u_45 hp_46 => ?_)
      obtain ⟨rfl, rfl⟩ := hp_46
      refine xr_perm C 1 [0] [] [CW q_1 z_28 cy x_42.1 x_42.2] rfl (by decide +kernel) rfl ?_
      refine xr_aload_n (n := 53) (j := 1) C dL_law_52 rfl rfl ?_
      refine xr_iconst (n := 54) (v := 0) C dL_law_53 rfl rfl ?_
      obtain ⟨x_47, hx_47, ho_29⟩ := yf_b ho_29
      refine xr_callVP (n := 57) (As := [.int 0]) (rest := []) C (kgX6_best l D cy (x := q_1) (a := z_28) (n := x_42.1) (t := x_42.2) (i1 := 0) hx_47) mX6_best u_650 u_651 u_652 0 rfl (CW_head _ _ _ _ _) rfl 1 [0] [] rfl (by decide +kernel) rfl rfl rfl rfl (Nat.le_of_ble_eq_true rfl) (Nat.le_of_ble_eq_true rfl) (Nat.le_of_ble_eq_true rfl) g_43.1 g_43.2 dL_law_54 rfl (fun v_48 u_49 hp_50 => ?_)
      obtain ⟨rfl, rfl⟩ := hp_50
      refine xr_perm C 1 [0] [] [CW q_1 z_28 cy x_47.2.1 x_47.2.2] rfl (by decide +kernel) rfl ?_
      refine xr_st (st' := [.int x_47.1]) rfl ?_
      refine xr_istore (n := 59) C [(4, .int x_47.1), (0, .ref b), (1, .ref q_1), (2, .int s_29.1), (3, .int (x_35 + (43 * s_29.1)))] dL_law_57 (by decide) rfl rfl ?_
      refine xr_aload_n (n := 60) (j := 2) C dL_law_59 rfl rfl ?_
      refine xr_iconst (n := 61) (v := 1) C dL_law_60 rfl rfl ?_
      refine xr_iload_n (n := 62) (j := 4) C dL_law_61 rfl rfl ?_
      refine xr_iconst (n := 63) (v := 3) C dL_law_62 rfl rfl ?_
      refine xr_ishr (n := 64) C dL_law_63 rfl ?_
      refine xr_bipush (n := 66) (v := 31) C dL_law_64 rfl rfl ?_
      obtain ⟨x_51, hx_51, ho_29⟩ := yf_b ho_29
      refine xr_callSp (n := 69) (As := [.int ((x_35 + (43 * s_29.1)) >>> ((3 : Int32) &&& 31)), .int 31]) (rest := [.int 1, .ref q_1]) C (kL_below l D cy (i1 := (x_35 + (43 * s_29.1)) >>> ((3 : Int32) &&& 31)) (i2 := 31) hx_51) mL_below u_748 u_749 1 [] [0] rfl (by decide +kernel) rfl rfl rfl rfl (Nat.le_of_ble_eq_true rfl) (Nat.le_of_ble_eq_true rfl) (Nat.le_of_ble_eq_true rfl) g_43.1 g_43.2 dL_law_66 rfl (fun _ _ hp => hp.2) (fun v_52 hp_54 => ?_)
      obtain ⟨rfl, -⟩ := hp_54
      refine xr_st (st' := [.int x_51, .int 1, .ref q_1]) rfl ?_
      refine xr_iadd (n := 70) C dL_law_69 rfl ?_
      refine xr_iconst (n := 71) (v := 1) C dL_law_70 rfl rfl ?_
      refine xr_iload_n (n := 72) (j := 4) C dL_law_71 rfl rfl ?_
      refine xr_iconst (n := 73) (v := 5) C dL_law_72 rfl rfl ?_
      refine xr_ishr (n := 74) C dL_law_73 rfl ?_
      refine xr_bipush (n := 76) (v := 31) C dL_law_74 rfl rfl ?_
      obtain ⟨x_55, hx_55, ho_29⟩ := yf_b ho_29
      refine xr_callSp (n := 79) (As := [.int ((x_35 + (43 * s_29.1)) >>> ((5 : Int32) &&& 31)), .int 31]) (rest := [.int 1, .int (1 + x_51), .ref q_1]) C (kL_below l D cy (i1 := (x_35 + (43 * s_29.1)) >>> ((5 : Int32) &&& 31)) (i2 := 31) hx_55) mL_below u_748 u_749 1 [] [0] rfl (by decide +kernel) rfl rfl rfl rfl (Nat.le_of_ble_eq_true rfl) (Nat.le_of_ble_eq_true rfl) (Nat.le_of_ble_eq_true rfl) g_43.1 g_43.2 dL_law_76 rfl (fun _ _ hp => hp.2) (fun v_56 hp_58 => ?_)
      obtain ⟨rfl, -⟩ := hp_58
      refine xr_st (st' := [.int x_55, .int 1, .int (1 + x_51), .ref q_1]) rfl ?_
      refine xr_iadd (n := 80) C dL_law_79 rfl ?_
      obtain ⟨x_59, hx_59, ho_29⟩ := yf_b ho_29
      refine xr_callVP (n := 83) (As := [.int (1 + x_51), .int (1 + x_55)]) (rest := []) C (kgX6_beats l D cy (x := q_1) (a := z_28) (n := x_47.2.1) (t := x_47.2.2) (i1 := 1 + x_51) (i2 := 1 + x_55) hx_59) mX6_beats u_636 u_637 u_638 0 rfl (CW_head _ _ _ _ _) rfl 1 [0] [] rfl (by decide +kernel) rfl rfl rfl rfl (Nat.le_of_ble_eq_true rfl) (Nat.le_of_ble_eq_true rfl) (Nat.le_of_ble_eq_true rfl) g_43.1 g_43.2 dL_law_80 rfl (fun v_60 u_61 hp_62 => ?_)
      obtain ⟨rfl, rfl⟩ := hp_62
      refine xr_perm C 1 [0] [] [CW q_1 z_28 cy x_59.2.1 x_59.2.2] rfl (by decide +kernel) rfl ?_
      refine xr_st (st' := [.int x_59.1]) rfl ?_
      refine xr_istore (n := 85) C [(5, .int x_59.1), (4, .int x_47.1), (0, .ref b), (1, .ref q_1), (2, .int s_29.1), (3, .int (x_35 + (43 * s_29.1)))] dL_law_83 (by decide) rfl rfl ?_
      refine xr_iload (n := 87) (j := 0) C dL_law_85 rfl rfl ?_
      refine xr_if_lt (tgt := 104) (n := 90) C dL_law_87 rfl rfl (fun c_63 => ?_) (fun c_63 => ?_)
      · replace ho_29 := yf_t c_63 ho_29
        refine xr_iload_n (n := 105) (j := 4) C dL_law_104 rfl rfl ?_
        refine xr_iconst (n := 106) (v := 3) C dL_law_105 rfl rfl ?_
        obtain ⟨g_64, ho_29⟩ := yf_g ho_29
        refine xr_irem (n := 107) C dL_law_106 g_64 rfl ?_
        refine xr_iconst (n := 108) (v := 2) C dL_law_107 rfl rfl ?_
        refine xr_icmp_ne (tgt := 339) (n := 111) C dL_law_108 rfl rfl (fun c_65 => ?_) (fun c_65 => ?_)
        · replace ho_29 := yf_f c_65 ho_29
          refine xr_iload_n (n := 340) (j := 4) C dL_law_339 rfl rfl ?_
          refine xr_bipush (n := 342) (v := 12) C dL_law_340 rfl rfl ?_
          obtain ⟨g_66, ho_29⟩ := yf_g ho_29
          refine xr_irem (n := 343) C dL_law_342 g_66 rfl ?_
          refine xr_bipush (n := 345) (v := 11) C dL_law_343 rfl rfl ?_
          refine xr_icmp_ne (tgt := 373) (n := 348) C dL_law_345 rfl rfl (fun c_67 => ?_) (fun c_67 => ?_)
          · replace ho_29 := yf_f c_67 ho_29
            refine xr_iinc (j := 4) (v := s_29.1 + 1) (n := 376) C [(2, .int (s_29.1 + 1)), (5, .int x_59.1), (4, .int x_47.1), (0, .ref b), (1, .ref q_1), (3, .int (x_35 + (43 * s_29.1)))] dL_law_373 rfl rfl (by decide) rfl rfl ?_
            refine xr_goto (tgt := 10) C dL_law_376 rfl ?_
            refine xr_lv (lv' := [(0, .ref b), (1, .ref q_1), (2, .int (s_29.1 + 1))]) [3, 4, 0] rfl ?_
            exact hk_29 (s_29.1 + 1, x_59.2.1, x_59.2.2, s_29.2.2.2.1 + 1, s_29.2.2.2.2 + 6) (Option.some.inj ho_29).symm
          · replace ho_29 := yf_t c_67 ho_29
            refine xr_aload_n (n := 349) (j := 3) C dL_law_348 rfl rfl ?_
            obtain ⟨x_68, hx_68, ho_29⟩ := yf_b ho_29
            refine xr_callVP (n := 352) (As := []) (rest := []) C (kgX6_digest l D cy (x := q_1) (a := z_28) (n := x_59.2.1) (t := x_59.2.2) hx_68) mX6_digest u_698 u_699 u_700 0 rfl (CW_head _ _ _ _ _) rfl 1 [0] [] rfl (by decide +kernel) rfl rfl rfl rfl (Nat.le_of_ble_eq_true rfl) (Nat.le_of_ble_eq_true rfl) (Nat.le_of_ble_eq_true rfl) g_43.1 g_43.2 dL_law_349 rfl (fun v_69 u_70 hp_71 => ?_)
            obtain ⟨rfl, rfl⟩ := hp_71
            refine xr_perm C 1 [0] [] [CW q_1 z_28 cy x_68.2.1 x_68.2.2] rfl (by decide +kernel) rfl ?_
            refine xr_st (st' := [.long x_68.1]) rfl ?_
            refine xr_lstore (n := 354) C [(6, .long x_68.1), (5, .int x_59.1), (4, .int x_47.1), (0, .ref b), (1, .ref q_1), (2, .int s_29.1), (3, .int (x_35 + (43 * s_29.1)))] dL_law_352 (by decide) rfl rfl ?_
            refine xr_aload_n (n := 355) (j := 4) C dL_law_354 rfl rfl ?_
            obtain ⟨x_72, hx_72, ho_29⟩ := yf_b ho_29
            refine xr_callVP (n := 358) (As := []) (rest := []) C (kgX6_isSound l D cy (x := q_1) (a := z_28) (n := x_68.2.1) (t := x_68.2.2) hx_72) mX6_isSound u_664 u_665 u_666 0 rfl (CW_head _ _ _ _ _) rfl 1 [0] [] rfl (by decide +kernel) rfl rfl rfl rfl (Nat.le_of_ble_eq_true rfl) (Nat.le_of_ble_eq_true rfl) (Nat.le_of_ble_eq_true rfl) g_43.1 g_43.2 dL_law_355 rfl (fun v_73 u_74 hp_75 => ?_)
            obtain ⟨rfl, rfl⟩ := hp_75
            refine xr_perm C 1 [0] [] [CW q_1 z_28 cy x_72.2.1 x_72.2.2] rfl (by decide +kernel) rfl ?_
            refine xr_st (st' := [.int x_72.1]) rfl ?_
            refine xr_if_eq (tgt := 371) (n := 361) C dL_law_358 rfl rfl (fun c_76 => ?_) (fun c_76 => ?_)
            · replace ho_29 := yf_t c_76 ho_29
              refine xr_iconst (n := 372) (v := 0) C dL_law_371 rfl rfl ?_
              have e_77 := hx_29 _ (Option.some.inj ho_29).symm
              subst e_77
              replace hR := ybr_r hR
              obtain rfl := Option.some.inj hR
              exact ret 0 rfl g_43.1 g_43.2 dL_law_372
            · replace ho_29 := yf_f c_76 ho_29
              refine xr_aload_n (n := 362) (j := 4) C dL_law_361 rfl rfl ?_
              obtain ⟨x_78, hx_78, ho_29⟩ := yf_b ho_29
              refine xr_callVP (n := 365) (As := []) (rest := []) C (kgX6_digest l D cy (x := q_1) (a := z_28) (n := x_72.2.1) (t := x_72.2.2) hx_78) mX6_digest u_698 u_699 u_700 0 rfl (CW_head _ _ _ _ _) rfl 1 [0] [] rfl (by decide +kernel) rfl rfl rfl rfl (Nat.le_of_ble_eq_true rfl) (Nat.le_of_ble_eq_true rfl) (Nat.le_of_ble_eq_true rfl) g_43.1 g_43.2 dL_law_362 rfl (fun v_79 u_80 hp_81 => ?_)
              obtain ⟨rfl, rfl⟩ := hp_81
              refine xr_perm C 1 [0] [] [CW q_1 z_28 cy x_78.2.1 x_78.2.2] rfl (by decide +kernel) rfl ?_
              refine xr_st (st' := [.long x_78.1]) rfl ?_
              refine xr_lload (n := 367) (j := 0) C dL_law_365 rfl rfl ?_
              refine xr_lcmp (n := 368) C dL_law_367 rfl ?_
              refine xr_if_eq (tgt := 373) (n := 371) C dL_law_368 rfl rfl (fun c_82 => ?_) (fun c_82 => ?_)
              · replace ho_29 := yf_t c_82 ho_29
                refine xr_iinc (j := 5) (v := s_29.1 + 1) (n := 376) C [(2, .int (s_29.1 + 1)), (6, .long x_68.1), (5, .int x_59.1), (4, .int x_47.1), (0, .ref b), (1, .ref q_1), (3, .int (x_35 + (43 * s_29.1)))] dL_law_373 rfl rfl (by decide) rfl rfl ?_
                refine xr_goto (tgt := 10) C dL_law_376 rfl ?_
                refine xr_lv (lv' := [(0, .ref b), (1, .ref q_1), (2, .int (s_29.1 + 1))]) [4, 5, 0] rfl ?_
                exact hk_29 (s_29.1 + 1, x_78.2.1, x_78.2.2, s_29.2.2.2.1 + 1, s_29.2.2.2.2 + 6) (Option.some.inj ho_29).symm
              · replace ho_29 := yf_f c_82 ho_29
                refine xr_iconst (n := 372) (v := 0) C dL_law_371 rfl rfl ?_
                have e_83 := hx_29 _ (Option.some.inj ho_29).symm
                subst e_83
                replace hR := ybr_r hR
                obtain rfl := Option.some.inj hR
                exact ret 0 rfl g_43.1 g_43.2 dL_law_372
        · replace ho_29 := yf_t c_65 ho_29
          refine xr_aload_n (n := 112) (j := 3) C dL_law_111 rfl rfl ?_
          obtain ⟨x_84, hx_84, ho_29⟩ := yf_b ho_29
          refine xr_callVP (n := 115) (As := []) (rest := []) C (kgX6_test l D cy (x := q_1) (a := z_28) (n := x_59.2.1) (t := x_59.2.2) hx_84) mX6_test u_267 u_268 u_269 0 rfl (CW_head _ _ _ _ _) rfl 1 [0] [] rfl (by decide +kernel) rfl rfl rfl rfl (Nat.le_of_ble_eq_true rfl) (Nat.le_of_ble_eq_true rfl) (Nat.le_of_ble_eq_true rfl) g_43.1 g_43.2 dL_law_112 rfl (fun v_85 u_86 hp_87 => ?_)
          obtain ⟨rfl, rfl⟩ := hp_87
          refine xr_perm C 1 [0] [] [CW q_1 z_28 cy x_84.2.1 x_84.2.2] rfl (by decide +kernel) rfl ?_
          refine xr_st (st' := [.int x_84.1]) rfl ?_
          refine xr_pop (n := 116) C dL_law_115 rfl rfl ?_
          refine xr_aload_n (n := 117) (j := 3) C dL_law_116 rfl rfl ?_
          refine xr_iconst (n := 118) (v := 0) C dL_law_117 rfl rfl ?_
          obtain ⟨x_88, hx_88, ho_29⟩ := yf_b ho_29
          refine xr_callVP (n := 121) (As := [.int 0]) (rest := []) C (kgX6_best l D cy (x := q_1) (a := z_28) (n := x_84.2.1) (t := x_84.2.2) (i1 := 0) hx_88) mX6_best u_650 u_651 u_652 0 rfl (CW_head _ _ _ _ _) rfl 1 [0] [] rfl (by decide +kernel) rfl rfl rfl rfl (Nat.le_of_ble_eq_true rfl) (Nat.le_of_ble_eq_true rfl) (Nat.le_of_ble_eq_true rfl) g_43.1 g_43.2 dL_law_118 rfl (fun v_89 u_90 hp_91 => ?_)
          obtain ⟨rfl, rfl⟩ := hp_91
          refine xr_perm C 1 [0] [] [CW q_1 z_28 cy x_88.2.1 x_88.2.2] rfl (by decide +kernel) rfl ?_
          refine xr_st (st' := [.int x_88.1]) rfl ?_
          refine xr_istore (n := 123) C [(6, .int x_88.1), (5, .int x_59.1), (4, .int x_47.1), (0, .ref b), (1, .ref q_1), (2, .int s_29.1), (3, .int (x_35 + (43 * s_29.1)))] dL_law_121 (by decide) rfl rfl ?_
          refine xr_aload_n (n := 124) (j := 4) C dL_law_123 rfl rfl ?_
          refine xr_iconst (n := 125) (v := 0) C dL_law_124 rfl rfl ?_
          obtain ⟨x_92, hx_92, ho_29⟩ := yf_b ho_29
          refine xr_callVP (n := 128) (As := [.int 0]) (rest := []) C (kgX6_mesh l D cy (x := q_1) (a := z_28) (n := x_88.2.1) (t := x_88.2.2) (i1 := 0) hx_92) mX6_mesh u_607 u_608 u_609 0 rfl (CW_head _ _ _ _ _) rfl 1 [0] [] rfl (by decide +kernel) rfl rfl rfl rfl (Nat.le_of_ble_eq_true rfl) (Nat.le_of_ble_eq_true rfl) (Nat.le_of_ble_eq_true rfl) g_43.1 g_43.2 dL_law_125 rfl (fun v_93 u_94 hp_95 => ?_)
          obtain ⟨rfl, rfl⟩ := hp_95
          refine xr_perm C 1 [0] [] [CW q_1 z_28 cy x_92.2.1 x_92.2.2] rfl (by decide +kernel) rfl ?_
          refine xr_st (st' := [.int x_92.1]) rfl ?_
          refine xr_aload_n (n := 129) (j := 4) C dL_law_128 rfl rfl ?_
          refine xr_iconst (n := 130) (v := 4) C dL_law_129 rfl rfl ?_
          obtain ⟨x_96, hx_96, ho_29⟩ := yf_b ho_29
          refine xr_callVP (n := 133) (As := [.int 4]) (rest := [.int x_92.1]) C (kgX6_mesh l D cy (x := q_1) (a := z_28) (n := x_92.2.1) (t := x_92.2.2) (i1 := 4) hx_96) mX6_mesh u_607 u_608 u_609 0 rfl (CW_head _ _ _ _ _) rfl 1 [0] [] rfl (by decide +kernel) rfl rfl rfl rfl (Nat.le_of_ble_eq_true rfl) (Nat.le_of_ble_eq_true rfl) (Nat.le_of_ble_eq_true rfl) g_43.1 g_43.2 dL_law_130 rfl (fun v_97 u_98 hp_99 => ?_)
          obtain ⟨rfl, rfl⟩ := hp_99
          refine xr_perm C 1 [0] [] [CW q_1 z_28 cy x_96.2.1 x_96.2.2] rfl (by decide +kernel) rfl ?_
          refine xr_st (st' := [.int x_96.1, .int x_92.1]) rfl ?_
          refine xr_iadd (n := 134) C dL_law_133 rfl ?_
          refine xr_istore (n := 136) C [(7, .int (x_92.1 + x_96.1)), (6, .int x_88.1), (5, .int x_59.1), (4, .int x_47.1), (0, .ref b), (1, .ref q_1), (2, .int s_29.1), (3, .int (x_35 + (43 * s_29.1)))] dL_law_134 (by decide) rfl rfl ?_
          refine xr_aload_n (n := 137) (j := 5) C dL_law_136 rfl rfl ?_
          refine xr_iconst (n := 138) (v := 2) C dL_law_137 rfl rfl ?_
          obtain ⟨x_100, hx_100, ho_29⟩ := yf_b ho_29
          refine xr_callVP (n := 141) (As := [.int 2]) (rest := []) C (kgX6_mesh l D cy (x := q_1) (a := z_28) (n := x_96.2.1) (t := x_96.2.2) (i1 := 2) hx_100) mX6_mesh u_607 u_608 u_609 0 rfl (CW_head _ _ _ _ _) rfl 1 [0] [] rfl (by decide +kernel) rfl rfl rfl rfl (Nat.le_of_ble_eq_true rfl) (Nat.le_of_ble_eq_true rfl) (Nat.le_of_ble_eq_true rfl) g_43.1 g_43.2 dL_law_138 rfl (fun v_101 u_102 hp_103 => ?_)
          obtain ⟨rfl, rfl⟩ := hp_103
          refine xr_perm C 1 [0] [] [CW q_1 z_28 cy x_100.2.1 x_100.2.2] rfl (by decide +kernel) rfl ?_
          refine xr_st (st' := [.int x_100.1]) rfl ?_
          refine xr_aload_n (n := 142) (j := 5) C dL_law_141 rfl rfl ?_
          refine xr_iconst (n := 143) (v := 4) C dL_law_142 rfl rfl ?_
          obtain ⟨x_104, hx_104, ho_29⟩ := yf_b ho_29
          refine xr_callVP (n := 146) (As := [.int 4]) (rest := [.int x_100.1]) C (kgX6_mesh l D cy (x := q_1) (a := z_28) (n := x_100.2.1) (t := x_100.2.2) (i1 := 4) hx_104) mX6_mesh u_607 u_608 u_609 0 rfl (CW_head _ _ _ _ _) rfl 1 [0] [] rfl (by decide +kernel) rfl rfl rfl rfl (Nat.le_of_ble_eq_true rfl) (Nat.le_of_ble_eq_true rfl) (Nat.le_of_ble_eq_true rfl) g_43.1 g_43.2 dL_law_143 rfl (fun v_105 u_106 hp_107 => ?_)
          obtain ⟨rfl, rfl⟩ := hp_107
          refine xr_perm C 1 [0] [] [CW q_1 z_28 cy x_104.2.1 x_104.2.2] rfl (by decide +kernel) rfl ?_
          refine xr_st (st' := [.int x_104.1, .int x_100.1]) rfl ?_
          refine xr_iadd (n := 147) C dL_law_146 rfl ?_
          refine xr_istore (n := 149) C [(8, .int (x_100.1 + x_104.1)), (7, .int (x_92.1 + x_96.1)), (6, .int x_88.1), (5, .int x_59.1), (4, .int x_47.1), (0, .ref b), (1, .ref q_1), (2, .int s_29.1), (3, .int (x_35 + (43 * s_29.1)))] dL_law_147 (by decide) rfl rfl ?_
          refine xr_iload (n := 151) (j := 2) C dL_law_149 rfl rfl ?_
          refine xr_if_lt (tgt := 339) (n := 154) C dL_law_151 rfl rfl (fun c_108 => ?_) (fun c_108 => ?_)
          · replace ho_29 := yf_t c_108 ho_29
            refine xr_iload_n (n := 340) (j := 7) C dL_law_339 rfl rfl ?_
            refine xr_bipush (n := 342) (v := 12) C dL_law_340 rfl rfl ?_
            obtain ⟨g_109, ho_29⟩ := yf_g ho_29
            refine xr_irem (n := 343) C dL_law_342 g_109 rfl ?_
            refine xr_bipush (n := 345) (v := 11) C dL_law_343 rfl rfl ?_
            refine xr_icmp_ne (tgt := 373) (n := 348) C dL_law_345 rfl rfl (fun c_110 => ?_) (fun c_110 => ?_)
            · replace ho_29 := yf_f c_110 ho_29
              refine xr_iinc (j := 7) (v := s_29.1 + 1) (n := 376) C [(2, .int (s_29.1 + 1)), (8, .int (x_100.1 + x_104.1)), (7, .int (x_92.1 + x_96.1)), (6, .int x_88.1), (5, .int x_59.1), (4, .int x_47.1), (0, .ref b), (1, .ref q_1), (3, .int (x_35 + (43 * s_29.1)))] dL_law_373 rfl rfl (by decide) rfl rfl ?_
              refine xr_goto (tgt := 10) C dL_law_376 rfl ?_
              refine xr_lv (lv' := [(0, .ref b), (1, .ref q_1), (2, .int (s_29.1 + 1))]) [6, 7, 0] rfl ?_
              exact hk_29 (s_29.1 + 1, x_104.2.1, x_104.2.2, s_29.2.2.2.1 + 1, s_29.2.2.2.2 + 6) (Option.some.inj ho_29).symm
            · replace ho_29 := yf_t c_110 ho_29
              refine xr_aload_n (n := 349) (j := 6) C dL_law_348 rfl rfl ?_
              obtain ⟨x_111, hx_111, ho_29⟩ := yf_b ho_29
              refine xr_callVP (n := 352) (As := []) (rest := []) C (kgX6_digest l D cy (x := q_1) (a := z_28) (n := x_104.2.1) (t := x_104.2.2) hx_111) mX6_digest u_698 u_699 u_700 0 rfl (CW_head _ _ _ _ _) rfl 1 [0] [] rfl (by decide +kernel) rfl rfl rfl rfl (Nat.le_of_ble_eq_true rfl) (Nat.le_of_ble_eq_true rfl) (Nat.le_of_ble_eq_true rfl) g_43.1 g_43.2 dL_law_349 rfl (fun v_112 u_113 hp_114 => ?_)
              obtain ⟨rfl, rfl⟩ := hp_114
              refine xr_perm C 1 [0] [] [CW q_1 z_28 cy x_111.2.1 x_111.2.2] rfl (by decide +kernel) rfl ?_
              refine xr_st (st' := [.long x_111.1]) rfl ?_
              refine xr_lstore (n := 354) C [(6, .long x_111.1), (8, .int (x_100.1 + x_104.1)), (5, .int x_59.1), (4, .int x_47.1), (0, .ref b), (1, .ref q_1), (2, .int s_29.1), (3, .int (x_35 + (43 * s_29.1)))] dL_law_352 (by decide) rfl rfl ?_
              refine xr_aload_n (n := 355) (j := 5) C dL_law_354 rfl rfl ?_
              obtain ⟨x_115, hx_115, ho_29⟩ := yf_b ho_29
              refine xr_callVP (n := 358) (As := []) (rest := []) C (kgX6_isSound l D cy (x := q_1) (a := z_28) (n := x_111.2.1) (t := x_111.2.2) hx_115) mX6_isSound u_664 u_665 u_666 0 rfl (CW_head _ _ _ _ _) rfl 1 [0] [] rfl (by decide +kernel) rfl rfl rfl rfl (Nat.le_of_ble_eq_true rfl) (Nat.le_of_ble_eq_true rfl) (Nat.le_of_ble_eq_true rfl) g_43.1 g_43.2 dL_law_355 rfl (fun v_116 u_117 hp_118 => ?_)
              obtain ⟨rfl, rfl⟩ := hp_118
              refine xr_perm C 1 [0] [] [CW q_1 z_28 cy x_115.2.1 x_115.2.2] rfl (by decide +kernel) rfl ?_
              refine xr_st (st' := [.int x_115.1]) rfl ?_
              refine xr_if_eq (tgt := 371) (n := 361) C dL_law_358 rfl rfl (fun c_119 => ?_) (fun c_119 => ?_)
              · replace ho_29 := yf_t c_119 ho_29
                refine xr_iconst (n := 372) (v := 0) C dL_law_371 rfl rfl ?_
                have e_120 := hx_29 _ (Option.some.inj ho_29).symm
                subst e_120
                replace hR := ybr_r hR
                obtain rfl := Option.some.inj hR
                exact ret 0 rfl g_43.1 g_43.2 dL_law_372
              · replace ho_29 := yf_f c_119 ho_29
                refine xr_aload_n (n := 362) (j := 5) C dL_law_361 rfl rfl ?_
                obtain ⟨x_121, hx_121, ho_29⟩ := yf_b ho_29
                refine xr_callVP (n := 365) (As := []) (rest := []) C (kgX6_digest l D cy (x := q_1) (a := z_28) (n := x_115.2.1) (t := x_115.2.2) hx_121) mX6_digest u_698 u_699 u_700 0 rfl (CW_head _ _ _ _ _) rfl 1 [0] [] rfl (by decide +kernel) rfl rfl rfl rfl (Nat.le_of_ble_eq_true rfl) (Nat.le_of_ble_eq_true rfl) (Nat.le_of_ble_eq_true rfl) g_43.1 g_43.2 dL_law_362 rfl (fun v_122 u_123 hp_124 => ?_)
                obtain ⟨rfl, rfl⟩ := hp_124
                refine xr_perm C 1 [0] [] [CW q_1 z_28 cy x_121.2.1 x_121.2.2] rfl (by decide +kernel) rfl ?_
                refine xr_st (st' := [.long x_121.1]) rfl ?_
                refine xr_lload (n := 367) (j := 0) C dL_law_365 rfl rfl ?_
                refine xr_lcmp (n := 368) C dL_law_367 rfl ?_
                refine xr_if_eq (tgt := 373) (n := 371) C dL_law_368 rfl rfl (fun c_125 => ?_) (fun c_125 => ?_)
                · replace ho_29 := yf_t c_125 ho_29
                  refine xr_iinc (j := 6) (v := s_29.1 + 1) (n := 376) C [(2, .int (s_29.1 + 1)), (6, .long x_111.1), (8, .int (x_100.1 + x_104.1)), (5, .int x_59.1), (4, .int x_47.1), (0, .ref b), (1, .ref q_1), (3, .int (x_35 + (43 * s_29.1)))] dL_law_373 rfl rfl (by decide) rfl rfl ?_
                  refine xr_goto (tgt := 10) C dL_law_376 rfl ?_
                  refine xr_lv (lv' := [(0, .ref b), (1, .ref q_1), (2, .int (s_29.1 + 1))]) [5, 6, 0] rfl ?_
                  exact hk_29 (s_29.1 + 1, x_121.2.1, x_121.2.2, s_29.2.2.2.1 + 1, s_29.2.2.2.2 + 6) (Option.some.inj ho_29).symm
                · replace ho_29 := yf_f c_125 ho_29
                  refine xr_iconst (n := 372) (v := 0) C dL_law_371 rfl rfl ?_
                  have e_126 := hx_29 _ (Option.some.inj ho_29).symm
                  subst e_126
                  replace hR := ybr_r hR
                  obtain rfl := Option.some.inj hR
                  exact ret 0 rfl g_43.1 g_43.2 dL_law_372
          · replace ho_29 := yf_f c_108 ho_29
            refine xr_aload_n (n := 155) (j := 6) C dL_law_154 rfl rfl ?_
            obtain ⟨x_127, hx_127, ho_29⟩ := yf_b ho_29
            refine xr_callVP (n := 158) (As := []) (rest := []) C (kgX6_start l D cy (x := q_1) (a := z_28) (n := x_104.2.1) (t := x_104.2.2) hx_127) mX6_start u_353 u_354 u_355 0 rfl (CW_head _ _ _ _ _) rfl 1 [0] [] rfl (by decide +kernel) rfl rfl rfl rfl (Nat.le_of_ble_eq_true rfl) (Nat.le_of_ble_eq_true rfl) (Nat.le_of_ble_eq_true rfl) g_43.1 g_43.2 dL_law_155 rfl (fun v_128 u_129 hp_130 => ?_)
            obtain ⟨rfl, rfl⟩ := hp_130
            refine xr_perm C 1 [0] [] [CW q_1 z_28 cy x_127.2.1 x_127.2.2] rfl (by decide +kernel) rfl ?_
            refine xr_st (st' := [.int x_127.1]) rfl ?_
            refine xr_iload (n := 160) (j := 2) C dL_law_158 rfl rfl ?_
            refine xr_icmp_eq (tgt := 165) (n := 163) C dL_law_160 rfl rfl (fun c_131 => ?_) (fun c_131 => ?_)
            · replace ho_29 := yf_t c_131 ho_29
              refine xr_iload (n := 167) (j := 2) C dL_law_165 rfl rfl ?_
              refine xr_istore (n := 169) C [(9, .int x_88.1), (8, .int (x_100.1 + x_104.1)), (7, .int (x_92.1 + x_96.1)), (6, .int x_88.1), (5, .int x_59.1), (4, .int x_47.1), (0, .ref b), (1, .ref q_1), (2, .int s_29.1), (3, .int (x_35 + (43 * s_29.1)))] dL_law_167 (by decide) rfl rfl ?_
              refine xr_lv (lv' := [(0, .ref b), (1, .ref q_1), (2, .int s_29.1), (3, .int (x_35 + (43 * s_29.1))), (7, .int (x_92.1 + x_96.1)), (8, .int (x_100.1 + x_104.1)), (9, .int x_88.1)]) [6, 7, 8, 9, 2, 1, 0] rfl ?_
              obtain ⟨b_132, hb_132, ho_29⟩ := yf_b ho_29
              have K_132 : ∀ z_132, b_132 = .inl z_132 → X p l e room_1 s m args below meth c D A H0 11 Q [CW q_1 z_28 cy z_132.2.1 z_132.2.2] (s_29.2.2.2.1 + 1) (s_29.2.2.2.2 + 6) [(0, .ref b), (1, .ref q_1), (2, .int s_29.1), (3, .int (x_35 + (43 * s_29.1))), (7, .int (x_92.1 + x_96.1)), (8, .int (x_100.1 + x_104.1))] 200 [] := by
                intro z_132 e_132; subst e_132; replace ho_29 := ybr_l ho_29
                refine xr_iconst (n := 201) (v := 0) C dL_law_200 rfl rfl ?_
                refine xr_istore (n := 203) C [(9, .int 0), (0, .ref b), (1, .ref q_1), (2, .int s_29.1), (3, .int (x_35 + (43 * s_29.1))), (7, .int (x_92.1 + x_96.1)), (8, .int (x_100.1 + x_104.1))] dL_law_201 (by decide) rfl rfl ?_
                refine xr_lv (lv' := [(0, .ref b), (1, .ref q_1), (2, .int s_29.1), (3, .int (x_35 + (43 * s_29.1))), (7, .int (x_92.1 + x_96.1)), (8, .int (x_100.1 + x_104.1)), (9, .int 0)]) [1, 2, 3, 4, 5, 6, 0] rfl ?_
                obtain ⟨b_133, hb_133, ho_29⟩ := yf_b ho_29
                have K_133 : ∀ z_133, b_133 = .inl z_133 → X p l e room_1 s m args below meth c D A H0 11 Q [CW q_1 z_28 cy z_133.2.1 z_133.2.2] (s_29.2.2.2.1 + 1) (s_29.2.2.2.2 + 6) [(0, .ref b), (1, .ref q_1), (2, .int s_29.1), (3, .int (x_35 + (43 * s_29.1))), (7, .int (x_92.1 + x_96.1)), (8, .int (x_100.1 + x_104.1))] 253 [] := by
                  intro z_133 e_133; subst e_133; replace ho_29 := ybr_l ho_29
                  refine xr_iload_n (n := 254) (j := 3) C dL_law_253 rfl rfl ?_
                  refine xr_iconst (n := 255) (v := 4) C dL_law_254 rfl rfl ?_
                  refine xr_ishr (n := 256) C dL_law_255 rfl ?_
                  refine xr_iload (n := 258) (j := 4) C dL_law_256 rfl rfl ?_
                  obtain ⟨x_134, hx_134, ho_29⟩ := yf_b ho_29
                  refine xr_callSp (n := 261) (As := [.int ((x_35 + (43 * s_29.1)) >>> ((4 : Int32) &&& 31)), .int (x_92.1 + x_96.1)]) (rest := []) C (kL_below l D cy (i1 := (x_35 + (43 * s_29.1)) >>> ((4 : Int32) &&& 31)) (i2 := x_92.1 + x_96.1) hx_134) mL_below u_748 u_749 1 [] [0] rfl (by decide +kernel) rfl rfl rfl rfl (Nat.le_of_ble_eq_true rfl) (Nat.le_of_ble_eq_true rfl) (Nat.le_of_ble_eq_true rfl) g_43.1 g_43.2 dL_law_258 rfl (fun _ _ hp => hp.2) (fun v_135 hp_137 => ?_)
                  obtain ⟨rfl, -⟩ := hp_137
                  refine xr_st (st' := [.int x_134]) rfl ?_
                  refine xr_istore (n := 263) C [(9, .int x_134), (0, .ref b), (1, .ref q_1), (2, .int s_29.1), (3, .int (x_35 + (43 * s_29.1))), (7, .int (x_92.1 + x_96.1)), (8, .int (x_100.1 + x_104.1))] dL_law_261 (by decide) rfl rfl ?_
                  refine xr_iload_n (n := 264) (j := 4) C dL_law_263 rfl rfl ?_
                  refine xr_bipush (n := 266) (v := 6) C dL_law_264 rfl rfl ?_
                  refine xr_ishr (n := 267) C dL_law_266 rfl ?_
                  refine xr_iload (n := 269) (j := 6) C dL_law_267 rfl rfl ?_
                  obtain ⟨x_138, hx_138, ho_29⟩ := yf_b ho_29
                  refine xr_callSp (n := 272) (As := [.int ((x_35 + (43 * s_29.1)) >>> ((6 : Int32) &&& 31)), .int (x_100.1 + x_104.1)]) (rest := []) C (kL_below l D cy (i1 := (x_35 + (43 * s_29.1)) >>> ((6 : Int32) &&& 31)) (i2 := x_100.1 + x_104.1) hx_138) mL_below u_748 u_749 1 [] [0] rfl (by decide +kernel) rfl rfl rfl rfl (Nat.le_of_ble_eq_true rfl) (Nat.le_of_ble_eq_true rfl) (Nat.le_of_ble_eq_true rfl) g_43.1 g_43.2 dL_law_269 rfl (fun _ _ hp => hp.2) (fun v_139 hp_141 => ?_)
                  obtain ⟨rfl, -⟩ := hp_141
                  refine xr_st (st' := [.int x_138]) rfl ?_
                  refine xr_istore (n := 274) C [(10, .int x_138), (9, .int x_134), (0, .ref b), (1, .ref q_1), (2, .int s_29.1), (3, .int (x_35 + (43 * s_29.1))), (7, .int (x_92.1 + x_96.1)), (8, .int (x_100.1 + x_104.1))] dL_law_272 (by decide) rfl rfl ?_
                  refine xr_aload_n (n := 275) (j := 3) C dL_law_274 rfl rfl ?_
                  refine xr_iconst (n := 276) (v := 4) C dL_law_275 rfl rfl ?_
                  obtain ⟨x_142, hx_142, ho_29⟩ := yf_b ho_29
                  refine xr_callVP (n := 279) (As := [.int 4]) (rest := []) C (kgX6_mesh l D cy (x := q_1) (a := z_28) (n := z_133.2.1) (t := z_133.2.2) (i1 := 4) hx_142) mX6_mesh u_607 u_608 u_609 0 rfl (CW_head _ _ _ _ _) rfl 1 [0] [] rfl (by decide +kernel) rfl rfl rfl rfl (Nat.le_of_ble_eq_true rfl) (Nat.le_of_ble_eq_true rfl) (Nat.le_of_ble_eq_true rfl) g_43.1 g_43.2 dL_law_276 rfl (fun v_143 u_144 hp_145 => ?_)
                  obtain ⟨rfl, rfl⟩ := hp_145
                  refine xr_perm C 1 [0] [] [CW q_1 z_28 cy x_142.2.1 x_142.2.2] rfl (by decide +kernel) rfl ?_
                  refine xr_st (st' := [.int x_142.1]) rfl ?_
                  refine xr_iconst (n := 280) (v := 1) C dL_law_279 rfl rfl ?_
                  refine xr_icmp_ne (tgt := 339) (n := 283) C dL_law_280 rfl rfl (fun c_146 => ?_) (fun c_146 => ?_)
                  · replace ho_29 := yf_f c_146 ho_29
                    refine xr_iload_n (n := 340) (j := 4) C dL_law_339 rfl rfl ?_
                    refine xr_bipush (n := 342) (v := 12) C dL_law_340 rfl rfl ?_
                    obtain ⟨g_147, ho_29⟩ := yf_g ho_29
                    refine xr_irem (n := 343) C dL_law_342 g_147 rfl ?_
                    refine xr_bipush (n := 345) (v := 11) C dL_law_343 rfl rfl ?_
                    refine xr_icmp_ne (tgt := 373) (n := 348) C dL_law_345 rfl rfl (fun c_148 => ?_) (fun c_148 => ?_)
                    · replace ho_29 := yf_f c_148 ho_29
                      refine xr_iinc (j := 4) (v := s_29.1 + 1) (n := 376) C [(2, .int (s_29.1 + 1)), (10, .int x_138), (9, .int x_134), (0, .ref b), (1, .ref q_1), (3, .int (x_35 + (43 * s_29.1))), (7, .int (x_92.1 + x_96.1)), (8, .int (x_100.1 + x_104.1))] dL_law_373 rfl rfl (by decide) rfl rfl ?_
                      refine xr_goto (tgt := 10) C dL_law_376 rfl ?_
                      refine xr_lv (lv' := [(0, .ref b), (1, .ref q_1), (2, .int (s_29.1 + 1))]) [3, 4, 0] rfl ?_
                      exact hk_29 (s_29.1 + 1, x_142.2.1, x_142.2.2, s_29.2.2.2.1 + 1, s_29.2.2.2.2 + 6) (Option.some.inj ho_29).symm
                    · replace ho_29 := yf_t c_148 ho_29
                      refine xr_aload_n (n := 349) (j := 3) C dL_law_348 rfl rfl ?_
                      obtain ⟨x_149, hx_149, ho_29⟩ := yf_b ho_29
                      refine xr_callVP (n := 352) (As := []) (rest := []) C (kgX6_digest l D cy (x := q_1) (a := z_28) (n := x_142.2.1) (t := x_142.2.2) hx_149) mX6_digest u_698 u_699 u_700 0 rfl (CW_head _ _ _ _ _) rfl 1 [0] [] rfl (by decide +kernel) rfl rfl rfl rfl (Nat.le_of_ble_eq_true rfl) (Nat.le_of_ble_eq_true rfl) (Nat.le_of_ble_eq_true rfl) g_43.1 g_43.2 dL_law_349 rfl (fun v_150 u_151 hp_152 => ?_)
                      obtain ⟨rfl, rfl⟩ := hp_152
                      refine xr_perm C 1 [0] [] [CW q_1 z_28 cy x_149.2.1 x_149.2.2] rfl (by decide +kernel) rfl ?_
                      refine xr_st (st' := [.long x_149.1]) rfl ?_
                      refine xr_lstore (n := 354) C [(6, .long x_149.1), (10, .int x_138), (9, .int x_134), (0, .ref b), (1, .ref q_1), (2, .int s_29.1), (3, .int (x_35 + (43 * s_29.1))), (8, .int (x_100.1 + x_104.1))] dL_law_352 (by decide) rfl rfl ?_
                      refine xr_aload_n (n := 355) (j := 4) C dL_law_354 rfl rfl ?_
                      obtain ⟨x_153, hx_153, ho_29⟩ := yf_b ho_29
                      refine xr_callVP (n := 358) (As := []) (rest := []) C (kgX6_isSound l D cy (x := q_1) (a := z_28) (n := x_149.2.1) (t := x_149.2.2) hx_153) mX6_isSound u_664 u_665 u_666 0 rfl (CW_head _ _ _ _ _) rfl 1 [0] [] rfl (by decide +kernel) rfl rfl rfl rfl (Nat.le_of_ble_eq_true rfl) (Nat.le_of_ble_eq_true rfl) (Nat.le_of_ble_eq_true rfl) g_43.1 g_43.2 dL_law_355 rfl (fun v_154 u_155 hp_156 => ?_)
                      obtain ⟨rfl, rfl⟩ := hp_156
                      refine xr_perm C 1 [0] [] [CW q_1 z_28 cy x_153.2.1 x_153.2.2] rfl (by decide +kernel) rfl ?_
                      refine xr_st (st' := [.int x_153.1]) rfl ?_
                      refine xr_if_eq (tgt := 371) (n := 361) C dL_law_358 rfl rfl (fun c_157 => ?_) (fun c_157 => ?_)
                      · replace ho_29 := yf_t c_157 ho_29
                        refine xr_iconst (n := 372) (v := 0) C dL_law_371 rfl rfl ?_
                        have e_158 := hx_29 _ (Option.some.inj ho_29).symm
                        subst e_158
                        replace hR := ybr_r hR
                        obtain rfl := Option.some.inj hR
                        exact ret 0 rfl g_43.1 g_43.2 dL_law_372
                      · replace ho_29 := yf_f c_157 ho_29
                        refine xr_aload_n (n := 362) (j := 4) C dL_law_361 rfl rfl ?_
                        obtain ⟨x_159, hx_159, ho_29⟩ := yf_b ho_29
                        refine xr_callVP (n := 365) (As := []) (rest := []) C (kgX6_digest l D cy (x := q_1) (a := z_28) (n := x_153.2.1) (t := x_153.2.2) hx_159) mX6_digest u_698 u_699 u_700 0 rfl (CW_head _ _ _ _ _) rfl 1 [0] [] rfl (by decide +kernel) rfl rfl rfl rfl (Nat.le_of_ble_eq_true rfl) (Nat.le_of_ble_eq_true rfl) (Nat.le_of_ble_eq_true rfl) g_43.1 g_43.2 dL_law_362 rfl (fun v_160 u_161 hp_162 => ?_)
                        obtain ⟨rfl, rfl⟩ := hp_162
                        refine xr_perm C 1 [0] [] [CW q_1 z_28 cy x_159.2.1 x_159.2.2] rfl (by decide +kernel) rfl ?_
                        refine xr_st (st' := [.long x_159.1]) rfl ?_
                        refine xr_lload (n := 367) (j := 0) C dL_law_365 rfl rfl ?_
                        refine xr_lcmp (n := 368) C dL_law_367 rfl ?_
                        refine xr_if_eq (tgt := 373) (n := 371) C dL_law_368 rfl rfl (fun c_163 => ?_) (fun c_163 => ?_)
                        · replace ho_29 := yf_t c_163 ho_29
                          refine xr_iinc (j := 5) (v := s_29.1 + 1) (n := 376) C [(2, .int (s_29.1 + 1)), (6, .long x_149.1), (10, .int x_138), (9, .int x_134), (0, .ref b), (1, .ref q_1), (3, .int (x_35 + (43 * s_29.1))), (8, .int (x_100.1 + x_104.1))] dL_law_373 rfl rfl (by decide) rfl rfl ?_
                          refine xr_goto (tgt := 10) C dL_law_376 rfl ?_
                          refine xr_lv (lv' := [(0, .ref b), (1, .ref q_1), (2, .int (s_29.1 + 1))]) [4, 5, 0] rfl ?_
                          exact hk_29 (s_29.1 + 1, x_159.2.1, x_159.2.2, s_29.2.2.2.1 + 1, s_29.2.2.2.2 + 6) (Option.some.inj ho_29).symm
                        · replace ho_29 := yf_f c_163 ho_29
                          refine xr_iconst (n := 372) (v := 0) C dL_law_371 rfl rfl ?_
                          have e_164 := hx_29 _ (Option.some.inj ho_29).symm
                          subst e_164
                          replace hR := ybr_r hR
                          obtain rfl := Option.some.inj hR
                          exact ret 0 rfl g_43.1 g_43.2 dL_law_372
                  · replace ho_29 := yf_t c_146 ho_29
                    refine xr_aload_n (n := 284) (j := 3) C dL_law_283 rfl rfl ?_
                    refine xr_iload (n := 286) (j := 1) C dL_law_284 rfl rfl ?_
                    refine xr_iload (n := 288) (j := 0) C dL_law_286 rfl rfl ?_
                    refine xr_iconst (n := 289) (v := 1) C dL_law_288 rfl rfl ?_
                    refine xr_iload_n (n := 290) (j := 5) C dL_law_289 rfl rfl ?_
                    refine xr_iconst (n := 291) (v := 5) C dL_law_290 rfl rfl ?_
                    refine xr_ishr (n := 292) C dL_law_291 rfl ?_
                    refine xr_sipush (n := 295) (v := 500) C dL_law_292 rfl rfl ?_
                    obtain ⟨x_165, hx_165, ho_29⟩ := yf_b ho_29
                    refine xr_callSp (n := 298) (As := [.int ((x_35 + (43 * s_29.1)) >>> ((5 : Int32) &&& 31)), .int 500]) (rest := [.int 1, .int x_138, .int x_134, .ref q_1]) C (kL_below l D cy (i1 := (x_35 + (43 * s_29.1)) >>> ((5 : Int32) &&& 31)) (i2 := 500) hx_165) mL_below u_748 u_749 1 [] [0] rfl (by decide +kernel) rfl rfl rfl rfl (Nat.le_of_ble_eq_true rfl) (Nat.le_of_ble_eq_true rfl) (Nat.le_of_ble_eq_true rfl) g_43.1 g_43.2 dL_law_295 rfl (fun _ _ hp => hp.2) (fun v_166 hp_168 => ?_)
                    obtain ⟨rfl, -⟩ := hp_168
                    refine xr_st (st' := [.int x_165, .int 1, .int x_138, .int x_134, .ref q_1]) rfl ?_
                    refine xr_iadd (n := 299) C dL_law_298 rfl ?_
                    obtain ⟨x_169, hx_169, ho_29⟩ := yf_b ho_29
                    refine xr_callVP (n := 302) (As := [.int x_134, .int x_138, .int (1 + x_165)]) (rest := []) C (kgX6_bend l D cy (x := q_1) (a := z_28) (n := x_142.2.1) (t := x_142.2.2) (i1 := x_134) (i2 := x_138) (i3 := 1 + x_165) hx_169) mX6_bend u_557 u_558 u_559 0 rfl (CW_head _ _ _ _ _) rfl 1 [0] [] rfl (by decide +kernel) rfl rfl rfl rfl (Nat.le_of_ble_eq_true rfl) (Nat.le_of_ble_eq_true rfl) (Nat.le_of_ble_eq_true rfl) g_43.1 g_43.2 dL_law_299 rfl (fun v_170 u_171 hp_172 => ?_)
                    obtain ⟨rfl, rfl⟩ := hp_172
                    refine xr_perm C 1 [0] [] [CW q_1 z_28 cy x_169.2.1 x_169.2.2] rfl (by decide +kernel) rfl ?_
                    refine xr_st (st' := [.int x_169.1]) rfl ?_
                    refine xr_pop (n := 303) C dL_law_302 rfl rfl ?_
                    refine xr_aload_n (n := 304) (j := 3) C dL_law_303 rfl rfl ?_
                    obtain ⟨x_173, hx_173, ho_29⟩ := yf_b ho_29
                    refine xr_callVP (n := 307) (As := []) (rest := []) C (kgX6_check l D cy (x := q_1) (a := z_28) (n := x_169.2.1) (t := x_169.2.2) hx_173) mX6_check u_584 u_585 u_586 0 rfl (CW_head _ _ _ _ _) rfl 1 [0] [] rfl (by decide +kernel) rfl rfl rfl rfl (Nat.le_of_ble_eq_true rfl) (Nat.le_of_ble_eq_true rfl) (Nat.le_of_ble_eq_true rfl) g_43.1 g_43.2 dL_law_304 rfl (fun v_174 u_175 hp_176 => ?_)
                    obtain ⟨rfl, rfl⟩ := hp_176
                    refine xr_perm C 1 [0] [] [CW q_1 z_28 cy x_173.2.1 x_173.2.2] rfl (by decide +kernel) rfl ?_
                    refine xr_st (st' := [.int x_173.1]) rfl ?_
                    refine xr_iconst (n := 308) (v := 1) C dL_law_307 rfl rfl ?_
                    refine xr_icmp_ne (tgt := 337) (n := 311) C dL_law_308 rfl rfl (fun c_177 => ?_) (fun c_177 => ?_)
                    · replace ho_29 := yf_f c_177 ho_29
                      refine xr_iconst (n := 338) (v := 0) C dL_law_337 rfl rfl ?_
                      have e_178 := hx_29 _ (Option.some.inj ho_29).symm
                      subst e_178
                      replace hR := ybr_r hR
                      obtain rfl := Option.some.inj hR
                      exact ret 0 rfl g_43.1 g_43.2 dL_law_338
                    · replace ho_29 := yf_t c_177 ho_29
                      refine xr_aload_n (n := 312) (j := 3) C dL_law_311 rfl rfl ?_
                      refine xr_iload (n := 314) (j := 1) C dL_law_312 rfl rfl ?_
                      refine xr_iload (n := 316) (j := 0) C dL_law_314 rfl rfl ?_
                      obtain ⟨x_179, hx_179, ho_29⟩ := yf_b ho_29
                      refine xr_callVP (n := 319) (As := [.int x_134, .int x_138]) (rest := []) C (kgX6_result l D cy (x := q_1) (a := z_28) (n := x_173.2.1) (t := x_173.2.2) (i1 := x_134) (i2 := x_138) hx_179) mX6_result u_619 u_620 u_621 0 rfl (CW_head _ _ _ _ _) rfl 1 [0] [] rfl (by decide +kernel) rfl rfl rfl rfl (Nat.le_of_ble_eq_true rfl) (Nat.le_of_ble_eq_true rfl) (Nat.le_of_ble_eq_true rfl) g_43.1 g_43.2 dL_law_316 rfl (fun v_180 u_181 hp_182 => ?_)
                      obtain ⟨rfl, rfl⟩ := hp_182
                      refine xr_perm C 1 [0] [] [CW q_1 z_28 cy x_179.2.1 x_179.2.2] rfl (by decide +kernel) rfl ?_
                      refine xr_st (st' := [.int x_179.1]) rfl ?_
                      refine xr_aload_n (n := 320) (j := 3) C dL_law_319 rfl rfl ?_
                      refine xr_iload (n := 322) (j := 1) C dL_law_320 rfl rfl ?_
                      refine xr_iload (n := 324) (j := 0) C dL_law_322 rfl rfl ?_
                      obtain ⟨x_183, hx_183, ho_29⟩ := yf_b ho_29
                      refine xr_callVP (n := 327) (As := [.int x_134, .int x_138]) (rest := [.int x_179.1]) C (kgX6_plain l D cy (x := q_1) (a := z_28) (n := x_179.2.1) (t := x_179.2.2) (i1 := x_134) (i2 := x_138) hx_183) mX6_plain u_623 u_624 u_625 0 rfl (CW_head _ _ _ _ _) rfl 1 [0] [] rfl (by decide +kernel) rfl rfl rfl rfl (Nat.le_of_ble_eq_true rfl) (Nat.le_of_ble_eq_true rfl) (Nat.le_of_ble_eq_true rfl) g_43.1 g_43.2 dL_law_324 rfl (fun v_184 u_185 hp_186 => ?_)
                      obtain ⟨rfl, rfl⟩ := hp_186
                      refine xr_perm C 1 [0] [] [CW q_1 z_28 cy x_183.2.1 x_183.2.2] rfl (by decide +kernel) rfl ?_
                      refine xr_st (st' := [.int x_183.1, .int x_179.1]) rfl ?_
                      refine xr_icmp_ne (tgt := 337) (n := 330) C dL_law_327 rfl rfl (fun c_187 => ?_) (fun c_187 => ?_)
                      · replace ho_29 := yf_f c_187 ho_29
                        refine xr_iconst (n := 338) (v := 0) C dL_law_337 rfl rfl ?_
                        have e_188 := hx_29 _ (Option.some.inj ho_29).symm
                        subst e_188
                        replace hR := ybr_r hR
                        obtain rfl := Option.some.inj hR
                        exact ret 0 rfl g_43.1 g_43.2 dL_law_338
                      · replace ho_29 := yf_t c_187 ho_29
                        refine xr_aload_n (n := 331) (j := 3) C dL_law_330 rfl rfl ?_
                        obtain ⟨x_189, hx_189, ho_29⟩ := yf_b ho_29
                        refine xr_callVP (n := 334) (As := []) (rest := []) C (kgX6_check l D cy (x := q_1) (a := z_28) (n := x_183.2.1) (t := x_183.2.2) hx_189) mX6_check u_584 u_585 u_586 0 rfl (CW_head _ _ _ _ _) rfl 1 [0] [] rfl (by decide +kernel) rfl rfl rfl rfl (Nat.le_of_ble_eq_true rfl) (Nat.le_of_ble_eq_true rfl) (Nat.le_of_ble_eq_true rfl) g_43.1 g_43.2 dL_law_331 rfl (fun v_190 u_191 hp_192 => ?_)
                        obtain ⟨rfl, rfl⟩ := hp_192
                        refine xr_perm C 1 [0] [] [CW q_1 z_28 cy x_189.2.1 x_189.2.2] rfl (by decide +kernel) rfl ?_
                        refine xr_st (st' := [.int x_189.1]) rfl ?_
                        refine xr_if_eq (tgt := 339) (n := 337) C dL_law_334 rfl rfl (fun c_193 => ?_) (fun c_193 => ?_)
                        · replace ho_29 := yf_t c_193 ho_29
                          refine xr_iload_n (n := 340) (j := 4) C dL_law_339 rfl rfl ?_
                          refine xr_bipush (n := 342) (v := 12) C dL_law_340 rfl rfl ?_
                          obtain ⟨g_194, ho_29⟩ := yf_g ho_29
                          refine xr_irem (n := 343) C dL_law_342 g_194 rfl ?_
                          refine xr_bipush (n := 345) (v := 11) C dL_law_343 rfl rfl ?_
                          refine xr_icmp_ne (tgt := 373) (n := 348) C dL_law_345 rfl rfl (fun c_195 => ?_) (fun c_195 => ?_)
                          · replace ho_29 := yf_f c_195 ho_29
                            refine xr_iinc (j := 4) (v := s_29.1 + 1) (n := 376) C [(2, .int (s_29.1 + 1)), (10, .int x_138), (9, .int x_134), (0, .ref b), (1, .ref q_1), (3, .int (x_35 + (43 * s_29.1))), (7, .int (x_92.1 + x_96.1)), (8, .int (x_100.1 + x_104.1))] dL_law_373 rfl rfl (by decide) rfl rfl ?_
                            refine xr_goto (tgt := 10) C dL_law_376 rfl ?_
                            refine xr_lv (lv' := [(0, .ref b), (1, .ref q_1), (2, .int (s_29.1 + 1))]) [3, 4, 0] rfl ?_
                            exact hk_29 (s_29.1 + 1, x_189.2.1, x_189.2.2, s_29.2.2.2.1 + 1, s_29.2.2.2.2 + 6) (Option.some.inj ho_29).symm
                          · replace ho_29 := yf_t c_195 ho_29
                            refine xr_aload_n (n := 349) (j := 3) C dL_law_348 rfl rfl ?_
                            obtain ⟨x_196, hx_196, ho_29⟩ := yf_b ho_29
                            refine xr_callVP (n := 352) (As := []) (rest := []) C (kgX6_digest l D cy (x := q_1) (a := z_28) (n := x_189.2.1) (t := x_189.2.2) hx_196) mX6_digest u_698 u_699 u_700 0 rfl (CW_head _ _ _ _ _) rfl 1 [0] [] rfl (by decide +kernel) rfl rfl rfl rfl (Nat.le_of_ble_eq_true rfl) (Nat.le_of_ble_eq_true rfl) (Nat.le_of_ble_eq_true rfl) g_43.1 g_43.2 dL_law_349 rfl (fun v_197 u_198 hp_199 => ?_)
                            obtain ⟨rfl, rfl⟩ := hp_199
                            refine xr_perm C 1 [0] [] [CW q_1 z_28 cy x_196.2.1 x_196.2.2] rfl (by decide +kernel) rfl ?_
                            refine xr_st (st' := [.long x_196.1]) rfl ?_
                            refine xr_lstore (n := 354) C [(6, .long x_196.1), (10, .int x_138), (9, .int x_134), (0, .ref b), (1, .ref q_1), (2, .int s_29.1), (3, .int (x_35 + (43 * s_29.1))), (8, .int (x_100.1 + x_104.1))] dL_law_352 (by decide) rfl rfl ?_
                            refine xr_aload_n (n := 355) (j := 4) C dL_law_354 rfl rfl ?_
                            obtain ⟨x_200, hx_200, ho_29⟩ := yf_b ho_29
                            refine xr_callVP (n := 358) (As := []) (rest := []) C (kgX6_isSound l D cy (x := q_1) (a := z_28) (n := x_196.2.1) (t := x_196.2.2) hx_200) mX6_isSound u_664 u_665 u_666 0 rfl (CW_head _ _ _ _ _) rfl 1 [0] [] rfl (by decide +kernel) rfl rfl rfl rfl (Nat.le_of_ble_eq_true rfl) (Nat.le_of_ble_eq_true rfl) (Nat.le_of_ble_eq_true rfl) g_43.1 g_43.2 dL_law_355 rfl (fun v_201 u_202 hp_203 => ?_)
                            obtain ⟨rfl, rfl⟩ := hp_203
                            refine xr_perm C 1 [0] [] [CW q_1 z_28 cy x_200.2.1 x_200.2.2] rfl (by decide +kernel) rfl ?_
                            refine xr_st (st' := [.int x_200.1]) rfl ?_
                            refine xr_if_eq (tgt := 371) (n := 361) C dL_law_358 rfl rfl (fun c_204 => ?_) (fun c_204 => ?_)
                            · replace ho_29 := yf_t c_204 ho_29
                              refine xr_iconst (n := 372) (v := 0) C dL_law_371 rfl rfl ?_
                              have e_205 := hx_29 _ (Option.some.inj ho_29).symm
                              subst e_205
                              replace hR := ybr_r hR
                              obtain rfl := Option.some.inj hR
                              exact ret 0 rfl g_43.1 g_43.2 dL_law_372
                            · replace ho_29 := yf_f c_204 ho_29
                              refine xr_aload_n (n := 362) (j := 4) C dL_law_361 rfl rfl ?_
                              obtain ⟨x_206, hx_206, ho_29⟩ := yf_b ho_29
                              refine xr_callVP (n := 365) (As := []) (rest := []) C (kgX6_digest l D cy (x := q_1) (a := z_28) (n := x_200.2.1) (t := x_200.2.2) hx_206) mX6_digest u_698 u_699 u_700 0 rfl (CW_head _ _ _ _ _) rfl 1 [0] [] rfl (by decide +kernel) rfl rfl rfl rfl (Nat.le_of_ble_eq_true rfl) (Nat.le_of_ble_eq_true rfl) (Nat.le_of_ble_eq_true rfl) g_43.1 g_43.2 dL_law_362 rfl (fun v_207 u_208 hp_209 => ?_)
                              obtain ⟨rfl, rfl⟩ := hp_209
                              refine xr_perm C 1 [0] [] [CW q_1 z_28 cy x_206.2.1 x_206.2.2] rfl (by decide +kernel) rfl ?_
                              refine xr_st (st' := [.long x_206.1]) rfl ?_
                              refine xr_lload (n := 367) (j := 0) C dL_law_365 rfl rfl ?_
                              refine xr_lcmp (n := 368) C dL_law_367 rfl ?_
                              refine xr_if_eq (tgt := 373) (n := 371) C dL_law_368 rfl rfl (fun c_210 => ?_) (fun c_210 => ?_)
                              · replace ho_29 := yf_t c_210 ho_29
                                refine xr_iinc (j := 5) (v := s_29.1 + 1) (n := 376) C [(2, .int (s_29.1 + 1)), (6, .long x_196.1), (10, .int x_138), (9, .int x_134), (0, .ref b), (1, .ref q_1), (3, .int (x_35 + (43 * s_29.1))), (8, .int (x_100.1 + x_104.1))] dL_law_373 rfl rfl (by decide) rfl rfl ?_
                                refine xr_goto (tgt := 10) C dL_law_376 rfl ?_
                                refine xr_lv (lv' := [(0, .ref b), (1, .ref q_1), (2, .int (s_29.1 + 1))]) [4, 5, 0] rfl ?_
                                exact hk_29 (s_29.1 + 1, x_206.2.1, x_206.2.2, s_29.2.2.2.1 + 1, s_29.2.2.2.2 + 6) (Option.some.inj ho_29).symm
                              · replace ho_29 := yf_f c_210 ho_29
                                refine xr_iconst (n := 372) (v := 0) C dL_law_371 rfl rfl ?_
                                have e_211 := hx_29 _ (Option.some.inj ho_29).symm
                                subst e_211
                                replace hR := ybr_r hR
                                obtain rfl := Option.some.inj hR
                                exact ret 0 rfl g_43.1 g_43.2 dL_law_372
                        · replace ho_29 := yf_f c_193 ho_29
                          refine xr_iconst (n := 338) (v := 0) C dL_law_337 rfl rfl ?_
                          have e_212 := hx_29 _ (Option.some.inj ho_29).symm
                          subst e_212
                          replace hR := ybr_r hR
                          obtain rfl := Option.some.inj hR
                          exact ret 0 rfl g_43.1 g_43.2 dL_law_338
                refine y_loop (P := fun s_133 => X p l e room_1 s m args below meth c D A H0 11 Q [CW q_1 z_28 cy s_133.2.1 s_133.2.2] (s_29.2.2.2.1 + 1) (s_29.2.2.2.2 + 6) [(0, .ref b), (1, .ref q_1), (2, .int s_29.1), (3, .int (x_35 + (43 * s_29.1))), (7, .int (x_92.1 + x_96.1)), (8, .int (x_100.1 + x_104.1)), (9, .int s_133.1)] 203 []) ?_ _ _ hb_133
                intro s_133 o_133 ho_133 hk_133 hx_133
                refine xr_iload (n := 205) (j := 6) C dL_law_203 rfl rfl ?_
                refine xr_iload (n := 207) (j := 4) C dL_law_205 rfl rfl ?_
                refine xr_icmp_ge (tgt := 253) (n := 210) C dL_law_207 rfl rfl (fun c_213 => ?_) (fun c_213 => ?_)
                · replace ho_133 := yf_t c_213 ho_133
                  refine xr_lv (lv' := [(0, .ref b), (1, .ref q_1), (2, .int s_29.1), (3, .int (x_35 + (43 * s_29.1))), (7, .int (x_92.1 + x_96.1)), (8, .int (x_100.1 + x_104.1))]) [0, 1, 2, 3, 4, 5] rfl ?_
                  have e_214 := hx_133 _ (Option.some.inj ho_133).symm
                  exact K_133 _ e_214.symm
                · replace ho_133 := yf_f c_213 ho_133
                  refine xr_iconst (n := 211) (v := 0) C dL_law_210 rfl rfl ?_
                  refine xr_istore (n := 213) C [(10, .int 0), (0, .ref b), (1, .ref q_1), (2, .int s_29.1), (3, .int (x_35 + (43 * s_29.1))), (7, .int (x_92.1 + x_96.1)), (8, .int (x_100.1 + x_104.1)), (9, .int s_133.1)] dL_law_211 (by decide) rfl rfl ?_
                  refine xr_lv (lv' := [(0, .ref b), (1, .ref q_1), (2, .int s_29.1), (3, .int (x_35 + (43 * s_29.1))), (7, .int (x_92.1 + x_96.1)), (8, .int (x_100.1 + x_104.1)), (9, .int s_133.1), (10, .int 0)]) [1, 2, 3, 4, 5, 6, 7, 0] rfl ?_
                  obtain ⟨b_215, hb_215, ho_133⟩ := yf_b ho_133
                  have K_215 : ∀ z_215, b_215 = .inl z_215 → X p l e room_1 s m args below meth c D A H0 11 Q [CW q_1 z_28 cy z_215.2.1 z_215.2.2] (s_29.2.2.2.1 + 1) (s_29.2.2.2.2 + 6) [(0, .ref b), (1, .ref q_1), (2, .int s_29.1), (3, .int (x_35 + (43 * s_29.1))), (7, .int (x_92.1 + x_96.1)), (8, .int (x_100.1 + x_104.1)), (9, .int s_133.1)] 247 [] := by
                    intro z_215 e_215; subst e_215; replace ho_133 := ybr_l ho_133
                    refine xr_iinc (j := 6) (v := s_133.1 + 1) (n := 250) C [(9, .int (s_133.1 + 1)), (0, .ref b), (1, .ref q_1), (2, .int s_29.1), (3, .int (x_35 + (43 * s_29.1))), (7, .int (x_92.1 + x_96.1)), (8, .int (x_100.1 + x_104.1))] dL_law_247 rfl rfl (by decide) rfl rfl ?_
                    refine xr_goto (tgt := 203) C dL_law_250 rfl ?_
                    refine xr_lv (lv' := [(0, .ref b), (1, .ref q_1), (2, .int s_29.1), (3, .int (x_35 + (43 * s_29.1))), (7, .int (x_92.1 + x_96.1)), (8, .int (x_100.1 + x_104.1)), (9, .int (s_133.1 + 1))]) [1, 2, 3, 4, 5, 6, 0] rfl ?_
                    exact hk_133 (s_133.1 + 1, z_215.2.1, z_215.2.2) (Option.some.inj ho_133).symm
                  refine y_loop (P := fun s_215 => X p l e room_1 s m args below meth c D A H0 11 Q [CW q_1 z_28 cy s_215.2.1 s_215.2.2] (s_29.2.2.2.1 + 1) (s_29.2.2.2.2 + 6) [(0, .ref b), (1, .ref q_1), (2, .int s_29.1), (3, .int (x_35 + (43 * s_29.1))), (7, .int (x_92.1 + x_96.1)), (8, .int (x_100.1 + x_104.1)), (9, .int s_133.1), (10, .int s_215.1)] 213 []) ?_ _ _ hb_215
                  intro s_215 o_215 ho_215 hk_215 hx_215
                  refine xr_iload (n := 215) (j := 7) C dL_law_213 rfl rfl ?_
                  refine xr_iload (n := 217) (j := 5) C dL_law_215 rfl rfl ?_
                  refine xr_icmp_ge (tgt := 247) (n := 220) C dL_law_217 rfl rfl (fun c_216 => ?_) (fun c_216 => ?_)
                  · replace ho_215 := yf_t c_216 ho_215
                    refine xr_lv (lv' := [(0, .ref b), (1, .ref q_1), (2, .int s_29.1), (3, .int (x_35 + (43 * s_29.1))), (7, .int (x_92.1 + x_96.1)), (8, .int (x_100.1 + x_104.1)), (9, .int s_133.1)]) [0, 1, 2, 3, 4, 5, 6] rfl ?_
                    have e_217 := hx_215 _ (Option.some.inj ho_215).symm
                    exact K_215 _ e_217.symm
                  · replace ho_215 := yf_f c_216 ho_215
                    refine xr_aload_n (n := 221) (j := 1) C dL_law_220 rfl rfl ?_
                    refine xr_iload (n := 223) (j := 6) C dL_law_221 rfl rfl ?_
                    refine xr_iload (n := 225) (j := 7) C dL_law_223 rfl rfl ?_
                    obtain ⟨x_218, hx_218, ho_215⟩ := yf_b ho_215
                    refine xr_callVP (n := 228) (As := [.int s_133.1, .int s_215.1]) (rest := []) C (kgX6_result l D cy (x := q_1) (a := z_28) (n := s_215.2.1) (t := s_215.2.2) (i1 := s_133.1) (i2 := s_215.1) hx_218) mX6_result u_619 u_620 u_621 0 rfl (CW_head _ _ _ _ _) rfl 1 [0] [] rfl (by decide +kernel) rfl rfl rfl rfl (Nat.le_of_ble_eq_true rfl) (Nat.le_of_ble_eq_true rfl) (Nat.le_of_ble_eq_true rfl) g_43.1 g_43.2 dL_law_225 rfl (fun v_219 u_220 hp_221 => ?_)
                    obtain ⟨rfl, rfl⟩ := hp_221
                    refine xr_perm C 1 [0] [] [CW q_1 z_28 cy x_218.2.1 x_218.2.2] rfl (by decide +kernel) rfl ?_
                    refine xr_st (st' := [.int x_218.1]) rfl ?_
                    refine xr_aload_n (n := 229) (j := 1) C dL_law_228 rfl rfl ?_
                    refine xr_iload (n := 231) (j := 6) C dL_law_229 rfl rfl ?_
                    refine xr_iload (n := 233) (j := 7) C dL_law_231 rfl rfl ?_
                    obtain ⟨x_222, hx_222, ho_215⟩ := yf_b ho_215
                    refine xr_callVP (n := 236) (As := [.int s_133.1, .int s_215.1]) (rest := [.int x_218.1]) C (kgX6_plain l D cy (x := q_1) (a := z_28) (n := x_218.2.1) (t := x_218.2.2) (i1 := s_133.1) (i2 := s_215.1) hx_222) mX6_plain u_623 u_624 u_625 0 rfl (CW_head _ _ _ _ _) rfl 1 [0] [] rfl (by decide +kernel) rfl rfl rfl rfl (Nat.le_of_ble_eq_true rfl) (Nat.le_of_ble_eq_true rfl) (Nat.le_of_ble_eq_true rfl) g_43.1 g_43.2 dL_law_233 rfl (fun v_223 u_224 hp_225 => ?_)
                    obtain ⟨rfl, rfl⟩ := hp_225
                    refine xr_perm C 1 [0] [] [CW q_1 z_28 cy x_222.2.1 x_222.2.2] rfl (by decide +kernel) rfl ?_
                    refine xr_st (st' := [.int x_222.1, .int x_218.1]) rfl ?_
                    refine xr_icmp_eq (tgt := 241) (n := 239) C dL_law_236 rfl rfl (fun c_226 => ?_) (fun c_226 => ?_)
                    · replace ho_215 := yf_t c_226 ho_215
                      refine xr_iinc (j := 7) (v := s_215.1 + 1) (n := 244) C [(10, .int (s_215.1 + 1)), (0, .ref b), (1, .ref q_1), (2, .int s_29.1), (3, .int (x_35 + (43 * s_29.1))), (7, .int (x_92.1 + x_96.1)), (8, .int (x_100.1 + x_104.1)), (9, .int s_133.1)] dL_law_241 rfl rfl (by decide) rfl rfl ?_
                      refine xr_goto (tgt := 213) C dL_law_244 rfl ?_
                      refine xr_lv (lv' := [(0, .ref b), (1, .ref q_1), (2, .int s_29.1), (3, .int (x_35 + (43 * s_29.1))), (7, .int (x_92.1 + x_96.1)), (8, .int (x_100.1 + x_104.1)), (9, .int s_133.1), (10, .int (s_215.1 + 1))]) [1, 2, 3, 4, 5, 6, 7, 0] rfl ?_
                      exact hk_215 (s_215.1 + 1, x_222.2.1, x_222.2.2) (Option.some.inj ho_215).symm
                    · replace ho_215 := yf_f c_226 ho_215
                      refine xr_iconst (n := 240) (v := 0) C dL_law_239 rfl rfl ?_
                      have e_227 := hx_215 _ (Option.some.inj ho_215).symm
                      subst e_227
                      replace ho_133 := ybr_r ho_133
                      have e_228 := hx_133 _ (Option.some.inj ho_133).symm
                      subst e_228
                      replace ho_29 := ybr_r ho_29
                      have e_229 := hx_29 _ (Option.some.inj ho_29).symm
                      subst e_229
                      replace hR := ybr_r hR
                      obtain rfl := Option.some.inj hR
                      exact ret 0 rfl g_43.1 g_43.2 dL_law_240
              refine y_loop (P := fun s_132 => X p l e room_1 s m args below meth c D A H0 11 Q [CW q_1 z_28 cy s_132.2.1 s_132.2.2] (s_29.2.2.2.1 + 1) (s_29.2.2.2.2 + 6) [(0, .ref b), (1, .ref q_1), (2, .int s_29.1), (3, .int (x_35 + (43 * s_29.1))), (7, .int (x_92.1 + x_96.1)), (8, .int (x_100.1 + x_104.1)), (9, .int s_132.1)] 169 []) ?_ _ _ hb_132
              intro s_132 o_132 ho_132 hk_132 hx_132
              refine xr_iload (n := 171) (j := 6) C dL_law_169 rfl rfl ?_
              refine xr_if_le (tgt := 200) (n := 174) C dL_law_171 rfl rfl (fun c_230 => ?_) (fun c_230 => ?_)
              · replace ho_132 := yf_t c_230 ho_132
                refine xr_lv (lv' := [(0, .ref b), (1, .ref q_1), (2, .int s_29.1), (3, .int (x_35 + (43 * s_29.1))), (7, .int (x_92.1 + x_96.1)), (8, .int (x_100.1 + x_104.1))]) [0, 1, 2, 3, 4, 5] rfl ?_
                have e_231 := hx_132 _ (Option.some.inj ho_132).symm
                exact K_132 _ e_231.symm
              · replace ho_132 := yf_f c_230 ho_132
                refine xr_aload_n (n := 175) (j := 1) C dL_law_174 rfl rfl ?_
                refine xr_bipush (n := 177) (v := 7) C dL_law_175 rfl rfl ?_
                obtain ⟨x_232, hx_232, ho_132⟩ := yf_b ho_132
                refine xr_callVP (n := 180) (As := [.int 7]) (rest := []) C (kgX6_beat l D cy (x := q_1) (a := z_28) (n := s_132.2.1) (t := s_132.2.2) (i1 := 7) hx_232) mX6_beat u_461 u_462 u_463 0 rfl (CW_head _ _ _ _ _) rfl 1 [0] [] rfl (by decide +kernel) rfl rfl rfl rfl (Nat.le_of_ble_eq_true rfl) (Nat.le_of_ble_eq_true rfl) (Nat.le_of_ble_eq_true rfl) g_43.1 g_43.2 dL_law_177 rfl (fun v_233 u_234 hp_235 => ?_)
                obtain ⟨rfl, rfl⟩ := hp_235
                refine xr_perm C 1 [0] [] [CW q_1 z_28 cy x_232.2.1 x_232.2.2] rfl (by decide +kernel) rfl ?_
                refine xr_st (st' := [.int x_232.1]) rfl ?_
                refine xr_iconst (n := 181) (v := 0) C dL_law_180 rfl rfl ?_
                refine xr_iload (n := 183) (j := 6) C dL_law_181 rfl rfl ?_
                refine xr_bipush (n := 185) (v := 7) C dL_law_183 rfl rfl ?_
                refine xr_isub (n := 186) C dL_law_185 rfl ?_
                refine xr_mmax (n := 189) C u_811 u_519 u_42 u_520 (Nat.le_of_ble_eq_true rfl) (Nat.le_of_ble_eq_true rfl) g_43.1 g_43.2 dL_law_186 rfl ?_
                refine xr_icmp_eq (tgt := 194) (n := 192) C dL_law_189 rfl rfl (fun c_236 => ?_) (fun c_236 => ?_)
                · replace ho_132 := yf_t c_236 ho_132
                  obtain ⟨y_237, ey_237, ho_132⟩ := yf_l ho_132
                  refine xr_iinc (j := 6) (v := y_237) (n := 197) C [(9, .int y_237), (0, .ref b), (1, .ref q_1), (2, .int s_29.1), (3, .int (x_35 + (43 * s_29.1))), (7, .int (x_92.1 + x_96.1)), (8, .int (x_100.1 + x_104.1))] dL_law_194 rfl (Eq.trans (by rfl) ey_237) (by decide) rfl rfl ?_
                  refine xr_goto (tgt := 169) C dL_law_197 rfl ?_
                  refine xr_lv (lv' := [(0, .ref b), (1, .ref q_1), (2, .int s_29.1), (3, .int (x_35 + (43 * s_29.1))), (7, .int (x_92.1 + x_96.1)), (8, .int (x_100.1 + x_104.1)), (9, .int y_237)]) [1, 2, 3, 4, 5, 6, 0] rfl ?_
                  exact hk_132 (y_237, x_232.2.1, x_232.2.2) (Option.some.inj ho_132).symm
                · replace ho_132 := yf_f c_236 ho_132
                  refine xr_iconst (n := 193) (v := 0) C dL_law_192 rfl rfl ?_
                  have e_238 := hx_132 _ (Option.some.inj ho_132).symm
                  subst e_238
                  replace ho_29 := ybr_r ho_29
                  have e_239 := hx_29 _ (Option.some.inj ho_29).symm
                  subst e_239
                  replace hR := ybr_r hR
                  obtain rfl := Option.some.inj hR
                  exact ret 0 rfl g_43.1 g_43.2 dL_law_193
            · replace ho_29 := yf_f c_131 ho_29
              refine xr_iconst (n := 164) (v := 0) C dL_law_163 rfl rfl ?_
              have e_240 := hx_29 _ (Option.some.inj ho_29).symm
              subst e_240
              replace hR := ybr_r hR
              obtain rfl := Option.some.inj hR
              exact ret 0 rfl g_43.1 g_43.2 dL_law_164
      · replace ho_29 := yf_f c_63 ho_29
        refine xr_iload (n := 92) (j := 1) C dL_law_90 rfl rfl ?_
        refine xr_if_lt (tgt := 102) (n := 95) C dL_law_92 rfl rfl (fun c_241 => ?_) (fun c_241 => ?_)
        · replace ho_29 := yf_t c_241 ho_29
          refine xr_iconst (n := 103) (v := 0) C dL_law_102 rfl rfl ?_
          have e_242 := hx_29 _ (Option.some.inj ho_29).symm
          subst e_242
          replace hR := ybr_r hR
          obtain rfl := Option.some.inj hR
          exact ret 0 rfl g_43.1 g_43.2 dL_law_103
        · replace ho_29 := yf_f c_241 ho_29
          refine xr_iload (n := 97) (j := 0) C dL_law_95 rfl rfl ?_
          refine xr_iload (n := 99) (j := 1) C dL_law_97 rfl rfl ?_
          refine xr_icmp_ge (tgt := 104) (n := 102) C dL_law_99 rfl rfl (fun c_243 => ?_) (fun c_243 => ?_)
          · replace ho_29 := yf_t c_243 ho_29
            refine xr_iload_n (n := 105) (j := 4) C dL_law_104 rfl rfl ?_
            refine xr_iconst (n := 106) (v := 3) C dL_law_105 rfl rfl ?_
            obtain ⟨g_244, ho_29⟩ := yf_g ho_29
            refine xr_irem (n := 107) C dL_law_106 g_244 rfl ?_
            refine xr_iconst (n := 108) (v := 2) C dL_law_107 rfl rfl ?_
            refine xr_icmp_ne (tgt := 339) (n := 111) C dL_law_108 rfl rfl (fun c_245 => ?_) (fun c_245 => ?_)
            · replace ho_29 := yf_f c_245 ho_29
              refine xr_iload_n (n := 340) (j := 4) C dL_law_339 rfl rfl ?_
              refine xr_bipush (n := 342) (v := 12) C dL_law_340 rfl rfl ?_
              obtain ⟨g_246, ho_29⟩ := yf_g ho_29
              refine xr_irem (n := 343) C dL_law_342 g_246 rfl ?_
              refine xr_bipush (n := 345) (v := 11) C dL_law_343 rfl rfl ?_
              refine xr_icmp_ne (tgt := 373) (n := 348) C dL_law_345 rfl rfl (fun c_247 => ?_) (fun c_247 => ?_)
              · replace ho_29 := yf_f c_247 ho_29
                refine xr_iinc (j := 4) (v := s_29.1 + 1) (n := 376) C [(2, .int (s_29.1 + 1)), (5, .int x_59.1), (4, .int x_47.1), (0, .ref b), (1, .ref q_1), (3, .int (x_35 + (43 * s_29.1)))] dL_law_373 rfl rfl (by decide) rfl rfl ?_
                refine xr_goto (tgt := 10) C dL_law_376 rfl ?_
                refine xr_lv (lv' := [(0, .ref b), (1, .ref q_1), (2, .int (s_29.1 + 1))]) [3, 4, 0] rfl ?_
                exact hk_29 (s_29.1 + 1, x_59.2.1, x_59.2.2, s_29.2.2.2.1 + 1, s_29.2.2.2.2 + 6) (Option.some.inj ho_29).symm
              · replace ho_29 := yf_t c_247 ho_29
                refine xr_aload_n (n := 349) (j := 3) C dL_law_348 rfl rfl ?_
                obtain ⟨x_248, hx_248, ho_29⟩ := yf_b ho_29
                refine xr_callVP (n := 352) (As := []) (rest := []) C (kgX6_digest l D cy (x := q_1) (a := z_28) (n := x_59.2.1) (t := x_59.2.2) hx_248) mX6_digest u_698 u_699 u_700 0 rfl (CW_head _ _ _ _ _) rfl 1 [0] [] rfl (by decide +kernel) rfl rfl rfl rfl (Nat.le_of_ble_eq_true rfl) (Nat.le_of_ble_eq_true rfl) (Nat.le_of_ble_eq_true rfl) g_43.1 g_43.2 dL_law_349 rfl (fun v_249 u_250 hp_251 => ?_)
                obtain ⟨rfl, rfl⟩ := hp_251
                refine xr_perm C 1 [0] [] [CW q_1 z_28 cy x_248.2.1 x_248.2.2] rfl (by decide +kernel) rfl ?_
                refine xr_st (st' := [.long x_248.1]) rfl ?_
                refine xr_lstore (n := 354) C [(6, .long x_248.1), (5, .int x_59.1), (4, .int x_47.1), (0, .ref b), (1, .ref q_1), (2, .int s_29.1), (3, .int (x_35 + (43 * s_29.1)))] dL_law_352 (by decide) rfl rfl ?_
                refine xr_aload_n (n := 355) (j := 4) C dL_law_354 rfl rfl ?_
                obtain ⟨x_252, hx_252, ho_29⟩ := yf_b ho_29
                refine xr_callVP (n := 358) (As := []) (rest := []) C (kgX6_isSound l D cy (x := q_1) (a := z_28) (n := x_248.2.1) (t := x_248.2.2) hx_252) mX6_isSound u_664 u_665 u_666 0 rfl (CW_head _ _ _ _ _) rfl 1 [0] [] rfl (by decide +kernel) rfl rfl rfl rfl (Nat.le_of_ble_eq_true rfl) (Nat.le_of_ble_eq_true rfl) (Nat.le_of_ble_eq_true rfl) g_43.1 g_43.2 dL_law_355 rfl (fun v_253 u_254 hp_255 => ?_)
                obtain ⟨rfl, rfl⟩ := hp_255
                refine xr_perm C 1 [0] [] [CW q_1 z_28 cy x_252.2.1 x_252.2.2] rfl (by decide +kernel) rfl ?_
                refine xr_st (st' := [.int x_252.1]) rfl ?_
                refine xr_if_eq (tgt := 371) (n := 361) C dL_law_358 rfl rfl (fun c_256 => ?_) (fun c_256 => ?_)
                · replace ho_29 := yf_t c_256 ho_29
                  refine xr_iconst (n := 372) (v := 0) C dL_law_371 rfl rfl ?_
                  have e_257 := hx_29 _ (Option.some.inj ho_29).symm
                  subst e_257
                  replace hR := ybr_r hR
                  obtain rfl := Option.some.inj hR
                  exact ret 0 rfl g_43.1 g_43.2 dL_law_372
                · replace ho_29 := yf_f c_256 ho_29
                  refine xr_aload_n (n := 362) (j := 4) C dL_law_361 rfl rfl ?_
                  obtain ⟨x_258, hx_258, ho_29⟩ := yf_b ho_29
                  refine xr_callVP (n := 365) (As := []) (rest := []) C (kgX6_digest l D cy (x := q_1) (a := z_28) (n := x_252.2.1) (t := x_252.2.2) hx_258) mX6_digest u_698 u_699 u_700 0 rfl (CW_head _ _ _ _ _) rfl 1 [0] [] rfl (by decide +kernel) rfl rfl rfl rfl (Nat.le_of_ble_eq_true rfl) (Nat.le_of_ble_eq_true rfl) (Nat.le_of_ble_eq_true rfl) g_43.1 g_43.2 dL_law_362 rfl (fun v_259 u_260 hp_261 => ?_)
                  obtain ⟨rfl, rfl⟩ := hp_261
                  refine xr_perm C 1 [0] [] [CW q_1 z_28 cy x_258.2.1 x_258.2.2] rfl (by decide +kernel) rfl ?_
                  refine xr_st (st' := [.long x_258.1]) rfl ?_
                  refine xr_lload (n := 367) (j := 0) C dL_law_365 rfl rfl ?_
                  refine xr_lcmp (n := 368) C dL_law_367 rfl ?_
                  refine xr_if_eq (tgt := 373) (n := 371) C dL_law_368 rfl rfl (fun c_262 => ?_) (fun c_262 => ?_)
                  · replace ho_29 := yf_t c_262 ho_29
                    refine xr_iinc (j := 5) (v := s_29.1 + 1) (n := 376) C [(2, .int (s_29.1 + 1)), (6, .long x_248.1), (5, .int x_59.1), (4, .int x_47.1), (0, .ref b), (1, .ref q_1), (3, .int (x_35 + (43 * s_29.1)))] dL_law_373 rfl rfl (by decide) rfl rfl ?_
                    refine xr_goto (tgt := 10) C dL_law_376 rfl ?_
                    refine xr_lv (lv' := [(0, .ref b), (1, .ref q_1), (2, .int (s_29.1 + 1))]) [4, 5, 0] rfl ?_
                    exact hk_29 (s_29.1 + 1, x_258.2.1, x_258.2.2, s_29.2.2.2.1 + 1, s_29.2.2.2.2 + 6) (Option.some.inj ho_29).symm
                  · replace ho_29 := yf_f c_262 ho_29
                    refine xr_iconst (n := 372) (v := 0) C dL_law_371 rfl rfl ?_
                    have e_263 := hx_29 _ (Option.some.inj ho_29).symm
                    subst e_263
                    replace hR := ybr_r hR
                    obtain rfl := Option.some.inj hR
                    exact ret 0 rfl g_43.1 g_43.2 dL_law_372
            · replace ho_29 := yf_t c_245 ho_29
              refine xr_aload_n (n := 112) (j := 3) C dL_law_111 rfl rfl ?_
              obtain ⟨x_264, hx_264, ho_29⟩ := yf_b ho_29
              refine xr_callVP (n := 115) (As := []) (rest := []) C (kgX6_test l D cy (x := q_1) (a := z_28) (n := x_59.2.1) (t := x_59.2.2) hx_264) mX6_test u_267 u_268 u_269 0 rfl (CW_head _ _ _ _ _) rfl 1 [0] [] rfl (by decide +kernel) rfl rfl rfl rfl (Nat.le_of_ble_eq_true rfl) (Nat.le_of_ble_eq_true rfl) (Nat.le_of_ble_eq_true rfl) g_43.1 g_43.2 dL_law_112 rfl (fun v_265 u_266 hp_267 => ?_)
              obtain ⟨rfl, rfl⟩ := hp_267
              refine xr_perm C 1 [0] [] [CW q_1 z_28 cy x_264.2.1 x_264.2.2] rfl (by decide +kernel) rfl ?_
              refine xr_st (st' := [.int x_264.1]) rfl ?_
              refine xr_pop (n := 116) C dL_law_115 rfl rfl ?_
              refine xr_aload_n (n := 117) (j := 3) C dL_law_116 rfl rfl ?_
              refine xr_iconst (n := 118) (v := 0) C dL_law_117 rfl rfl ?_
              obtain ⟨x_268, hx_268, ho_29⟩ := yf_b ho_29
              refine xr_callVP (n := 121) (As := [.int 0]) (rest := []) C (kgX6_best l D cy (x := q_1) (a := z_28) (n := x_264.2.1) (t := x_264.2.2) (i1 := 0) hx_268) mX6_best u_650 u_651 u_652 0 rfl (CW_head _ _ _ _ _) rfl 1 [0] [] rfl (by decide +kernel) rfl rfl rfl rfl (Nat.le_of_ble_eq_true rfl) (Nat.le_of_ble_eq_true rfl) (Nat.le_of_ble_eq_true rfl) g_43.1 g_43.2 dL_law_118 rfl (fun v_269 u_270 hp_271 => ?_)
              obtain ⟨rfl, rfl⟩ := hp_271
              refine xr_perm C 1 [0] [] [CW q_1 z_28 cy x_268.2.1 x_268.2.2] rfl (by decide +kernel) rfl ?_
              refine xr_st (st' := [.int x_268.1]) rfl ?_
              refine xr_istore (n := 123) C [(6, .int x_268.1), (5, .int x_59.1), (4, .int x_47.1), (0, .ref b), (1, .ref q_1), (2, .int s_29.1), (3, .int (x_35 + (43 * s_29.1)))] dL_law_121 (by decide) rfl rfl ?_
              refine xr_aload_n (n := 124) (j := 4) C dL_law_123 rfl rfl ?_
              refine xr_iconst (n := 125) (v := 0) C dL_law_124 rfl rfl ?_
              obtain ⟨x_272, hx_272, ho_29⟩ := yf_b ho_29
              refine xr_callVP (n := 128) (As := [.int 0]) (rest := []) C (kgX6_mesh l D cy (x := q_1) (a := z_28) (n := x_268.2.1) (t := x_268.2.2) (i1 := 0) hx_272) mX6_mesh u_607 u_608 u_609 0 rfl (CW_head _ _ _ _ _) rfl 1 [0] [] rfl (by decide +kernel) rfl rfl rfl rfl (Nat.le_of_ble_eq_true rfl) (Nat.le_of_ble_eq_true rfl) (Nat.le_of_ble_eq_true rfl) g_43.1 g_43.2 dL_law_125 rfl (fun v_273 u_274 hp_275 => ?_)
              obtain ⟨rfl, rfl⟩ := hp_275
              refine xr_perm C 1 [0] [] [CW q_1 z_28 cy x_272.2.1 x_272.2.2] rfl (by decide +kernel) rfl ?_
              refine xr_st (st' := [.int x_272.1]) rfl ?_
              refine xr_aload_n (n := 129) (j := 4) C dL_law_128 rfl rfl ?_
              refine xr_iconst (n := 130) (v := 4) C dL_law_129 rfl rfl ?_
              obtain ⟨x_276, hx_276, ho_29⟩ := yf_b ho_29
              refine xr_callVP (n := 133) (As := [.int 4]) (rest := [.int x_272.1]) C (kgX6_mesh l D cy (x := q_1) (a := z_28) (n := x_272.2.1) (t := x_272.2.2) (i1 := 4) hx_276) mX6_mesh u_607 u_608 u_609 0 rfl (CW_head _ _ _ _ _) rfl 1 [0] [] rfl (by decide +kernel) rfl rfl rfl rfl (Nat.le_of_ble_eq_true rfl) (Nat.le_of_ble_eq_true rfl) (Nat.le_of_ble_eq_true rfl) g_43.1 g_43.2 dL_law_130 rfl (fun v_277 u_278 hp_279 => ?_)
              obtain ⟨rfl, rfl⟩ := hp_279
              refine xr_perm C 1 [0] [] [CW q_1 z_28 cy x_276.2.1 x_276.2.2] rfl (by decide +kernel) rfl ?_
              refine xr_st (st' := [.int x_276.1, .int x_272.1]) rfl ?_
              refine xr_iadd (n := 134) C dL_law_133 rfl ?_
              refine xr_istore (n := 136) C [(7, .int (x_272.1 + x_276.1)), (6, .int x_268.1), (5, .int x_59.1), (4, .int x_47.1), (0, .ref b), (1, .ref q_1), (2, .int s_29.1), (3, .int (x_35 + (43 * s_29.1)))] dL_law_134 (by decide) rfl rfl ?_
              refine xr_aload_n (n := 137) (j := 5) C dL_law_136 rfl rfl ?_
              refine xr_iconst (n := 138) (v := 2) C dL_law_137 rfl rfl ?_
              obtain ⟨x_280, hx_280, ho_29⟩ := yf_b ho_29
              refine xr_callVP (n := 141) (As := [.int 2]) (rest := []) C (kgX6_mesh l D cy (x := q_1) (a := z_28) (n := x_276.2.1) (t := x_276.2.2) (i1 := 2) hx_280) mX6_mesh u_607 u_608 u_609 0 rfl (CW_head _ _ _ _ _) rfl 1 [0] [] rfl (by decide +kernel) rfl rfl rfl rfl (Nat.le_of_ble_eq_true rfl) (Nat.le_of_ble_eq_true rfl) (Nat.le_of_ble_eq_true rfl) g_43.1 g_43.2 dL_law_138 rfl (fun v_281 u_282 hp_283 => ?_)
              obtain ⟨rfl, rfl⟩ := hp_283
              refine xr_perm C 1 [0] [] [CW q_1 z_28 cy x_280.2.1 x_280.2.2] rfl (by decide +kernel) rfl ?_
              refine xr_st (st' := [.int x_280.1]) rfl ?_
              refine xr_aload_n (n := 142) (j := 5) C dL_law_141 rfl rfl ?_
              refine xr_iconst (n := 143) (v := 4) C dL_law_142 rfl rfl ?_
              obtain ⟨x_284, hx_284, ho_29⟩ := yf_b ho_29
              refine xr_callVP (n := 146) (As := [.int 4]) (rest := [.int x_280.1]) C (kgX6_mesh l D cy (x := q_1) (a := z_28) (n := x_280.2.1) (t := x_280.2.2) (i1 := 4) hx_284) mX6_mesh u_607 u_608 u_609 0 rfl (CW_head _ _ _ _ _) rfl 1 [0] [] rfl (by decide +kernel) rfl rfl rfl rfl (Nat.le_of_ble_eq_true rfl) (Nat.le_of_ble_eq_true rfl) (Nat.le_of_ble_eq_true rfl) g_43.1 g_43.2 dL_law_143 rfl (fun v_285 u_286 hp_287 => ?_)
              obtain ⟨rfl, rfl⟩ := hp_287
              refine xr_perm C 1 [0] [] [CW q_1 z_28 cy x_284.2.1 x_284.2.2] rfl (by decide +kernel) rfl ?_
              refine xr_st (st' := [.int x_284.1, .int x_280.1]) rfl ?_
              refine xr_iadd (n := 147) C dL_law_146 rfl ?_
              refine xr_istore (n := 149) C [(8, .int (x_280.1 + x_284.1)), (7, .int (x_272.1 + x_276.1)), (6, .int x_268.1), (5, .int x_59.1), (4, .int x_47.1), (0, .ref b), (1, .ref q_1), (2, .int s_29.1), (3, .int (x_35 + (43 * s_29.1)))] dL_law_147 (by decide) rfl rfl ?_
              refine xr_iload (n := 151) (j := 2) C dL_law_149 rfl rfl ?_
              refine xr_if_lt (tgt := 339) (n := 154) C dL_law_151 rfl rfl (fun c_288 => ?_) (fun c_288 => ?_)
              · replace ho_29 := yf_t c_288 ho_29
                refine xr_iload_n (n := 340) (j := 7) C dL_law_339 rfl rfl ?_
                refine xr_bipush (n := 342) (v := 12) C dL_law_340 rfl rfl ?_
                obtain ⟨g_289, ho_29⟩ := yf_g ho_29
                refine xr_irem (n := 343) C dL_law_342 g_289 rfl ?_
                refine xr_bipush (n := 345) (v := 11) C dL_law_343 rfl rfl ?_
                refine xr_icmp_ne (tgt := 373) (n := 348) C dL_law_345 rfl rfl (fun c_290 => ?_) (fun c_290 => ?_)
                · replace ho_29 := yf_f c_290 ho_29
                  refine xr_iinc (j := 7) (v := s_29.1 + 1) (n := 376) C [(2, .int (s_29.1 + 1)), (8, .int (x_280.1 + x_284.1)), (7, .int (x_272.1 + x_276.1)), (6, .int x_268.1), (5, .int x_59.1), (4, .int x_47.1), (0, .ref b), (1, .ref q_1), (3, .int (x_35 + (43 * s_29.1)))] dL_law_373 rfl rfl (by decide) rfl rfl ?_
                  refine xr_goto (tgt := 10) C dL_law_376 rfl ?_
                  refine xr_lv (lv' := [(0, .ref b), (1, .ref q_1), (2, .int (s_29.1 + 1))]) [6, 7, 0] rfl ?_
                  exact hk_29 (s_29.1 + 1, x_284.2.1, x_284.2.2, s_29.2.2.2.1 + 1, s_29.2.2.2.2 + 6) (Option.some.inj ho_29).symm
                · replace ho_29 := yf_t c_290 ho_29
                  refine xr_aload_n (n := 349) (j := 6) C dL_law_348 rfl rfl ?_
                  obtain ⟨x_291, hx_291, ho_29⟩ := yf_b ho_29
                  refine xr_callVP (n := 352) (As := []) (rest := []) C (kgX6_digest l D cy (x := q_1) (a := z_28) (n := x_284.2.1) (t := x_284.2.2) hx_291) mX6_digest u_698 u_699 u_700 0 rfl (CW_head _ _ _ _ _) rfl 1 [0] [] rfl (by decide +kernel) rfl rfl rfl rfl (Nat.le_of_ble_eq_true rfl) (Nat.le_of_ble_eq_true rfl) (Nat.le_of_ble_eq_true rfl) g_43.1 g_43.2 dL_law_349 rfl (fun v_292 u_293 hp_294 => ?_)
                  obtain ⟨rfl, rfl⟩ := hp_294
                  refine xr_perm C 1 [0] [] [CW q_1 z_28 cy x_291.2.1 x_291.2.2] rfl (by decide +kernel) rfl ?_
                  refine xr_st (st' := [.long x_291.1]) rfl ?_
                  refine xr_lstore (n := 354) C [(6, .long x_291.1), (8, .int (x_280.1 + x_284.1)), (5, .int x_59.1), (4, .int x_47.1), (0, .ref b), (1, .ref q_1), (2, .int s_29.1), (3, .int (x_35 + (43 * s_29.1)))] dL_law_352 (by decide) rfl rfl ?_
                  refine xr_aload_n (n := 355) (j := 5) C dL_law_354 rfl rfl ?_
                  obtain ⟨x_295, hx_295, ho_29⟩ := yf_b ho_29
                  refine xr_callVP (n := 358) (As := []) (rest := []) C (kgX6_isSound l D cy (x := q_1) (a := z_28) (n := x_291.2.1) (t := x_291.2.2) hx_295) mX6_isSound u_664 u_665 u_666 0 rfl (CW_head _ _ _ _ _) rfl 1 [0] [] rfl (by decide +kernel) rfl rfl rfl rfl (Nat.le_of_ble_eq_true rfl) (Nat.le_of_ble_eq_true rfl) (Nat.le_of_ble_eq_true rfl) g_43.1 g_43.2 dL_law_355 rfl (fun v_296 u_297 hp_298 => ?_)
                  obtain ⟨rfl, rfl⟩ := hp_298
                  refine xr_perm C 1 [0] [] [CW q_1 z_28 cy x_295.2.1 x_295.2.2] rfl (by decide +kernel) rfl ?_
                  refine xr_st (st' := [.int x_295.1]) rfl ?_
                  refine xr_if_eq (tgt := 371) (n := 361) C dL_law_358 rfl rfl (fun c_299 => ?_) (fun c_299 => ?_)
                  · replace ho_29 := yf_t c_299 ho_29
                    refine xr_iconst (n := 372) (v := 0) C dL_law_371 rfl rfl ?_
                    have e_300 := hx_29 _ (Option.some.inj ho_29).symm
                    subst e_300
                    replace hR := ybr_r hR
                    obtain rfl := Option.some.inj hR
                    exact ret 0 rfl g_43.1 g_43.2 dL_law_372
                  · replace ho_29 := yf_f c_299 ho_29
                    refine xr_aload_n (n := 362) (j := 5) C dL_law_361 rfl rfl ?_
                    obtain ⟨x_301, hx_301, ho_29⟩ := yf_b ho_29
                    refine xr_callVP (n := 365) (As := []) (rest := []) C (kgX6_digest l D cy (x := q_1) (a := z_28) (n := x_295.2.1) (t := x_295.2.2) hx_301) mX6_digest u_698 u_699 u_700 0 rfl (CW_head _ _ _ _ _) rfl 1 [0] [] rfl (by decide +kernel) rfl rfl rfl rfl (Nat.le_of_ble_eq_true rfl) (Nat.le_of_ble_eq_true rfl) (Nat.le_of_ble_eq_true rfl) g_43.1 g_43.2 dL_law_362 rfl (fun v_302 u_303 hp_304 => ?_)
                    obtain ⟨rfl, rfl⟩ := hp_304
                    refine xr_perm C 1 [0] [] [CW q_1 z_28 cy x_301.2.1 x_301.2.2] rfl (by decide +kernel) rfl ?_
                    refine xr_st (st' := [.long x_301.1]) rfl ?_
                    refine xr_lload (n := 367) (j := 0) C dL_law_365 rfl rfl ?_
                    refine xr_lcmp (n := 368) C dL_law_367 rfl ?_
                    refine xr_if_eq (tgt := 373) (n := 371) C dL_law_368 rfl rfl (fun c_305 => ?_) (fun c_305 => ?_)
                    · replace ho_29 := yf_t c_305 ho_29
                      refine xr_iinc (j := 6) (v := s_29.1 + 1) (n := 376) C [(2, .int (s_29.1 + 1)), (6, .long x_291.1), (8, .int (x_280.1 + x_284.1)), (5, .int x_59.1), (4, .int x_47.1), (0, .ref b), (1, .ref q_1), (3, .int (x_35 + (43 * s_29.1)))] dL_law_373 rfl rfl (by decide) rfl rfl ?_
                      refine xr_goto (tgt := 10) C dL_law_376 rfl ?_
                      refine xr_lv (lv' := [(0, .ref b), (1, .ref q_1), (2, .int (s_29.1 + 1))]) [5, 6, 0] rfl ?_
                      exact hk_29 (s_29.1 + 1, x_301.2.1, x_301.2.2, s_29.2.2.2.1 + 1, s_29.2.2.2.2 + 6) (Option.some.inj ho_29).symm
                    · replace ho_29 := yf_f c_305 ho_29
                      refine xr_iconst (n := 372) (v := 0) C dL_law_371 rfl rfl ?_
                      have e_306 := hx_29 _ (Option.some.inj ho_29).symm
                      subst e_306
                      replace hR := ybr_r hR
                      obtain rfl := Option.some.inj hR
                      exact ret 0 rfl g_43.1 g_43.2 dL_law_372
              · replace ho_29 := yf_f c_288 ho_29
                refine xr_aload_n (n := 155) (j := 6) C dL_law_154 rfl rfl ?_
                obtain ⟨x_307, hx_307, ho_29⟩ := yf_b ho_29
                refine xr_callVP (n := 158) (As := []) (rest := []) C (kgX6_start l D cy (x := q_1) (a := z_28) (n := x_284.2.1) (t := x_284.2.2) hx_307) mX6_start u_353 u_354 u_355 0 rfl (CW_head _ _ _ _ _) rfl 1 [0] [] rfl (by decide +kernel) rfl rfl rfl rfl (Nat.le_of_ble_eq_true rfl) (Nat.le_of_ble_eq_true rfl) (Nat.le_of_ble_eq_true rfl) g_43.1 g_43.2 dL_law_155 rfl (fun v_308 u_309 hp_310 => ?_)
                obtain ⟨rfl, rfl⟩ := hp_310
                refine xr_perm C 1 [0] [] [CW q_1 z_28 cy x_307.2.1 x_307.2.2] rfl (by decide +kernel) rfl ?_
                refine xr_st (st' := [.int x_307.1]) rfl ?_
                refine xr_iload (n := 160) (j := 2) C dL_law_158 rfl rfl ?_
                refine xr_icmp_eq (tgt := 165) (n := 163) C dL_law_160 rfl rfl (fun c_311 => ?_) (fun c_311 => ?_)
                · replace ho_29 := yf_t c_311 ho_29
                  refine xr_iload (n := 167) (j := 2) C dL_law_165 rfl rfl ?_
                  refine xr_istore (n := 169) C [(9, .int x_268.1), (8, .int (x_280.1 + x_284.1)), (7, .int (x_272.1 + x_276.1)), (6, .int x_268.1), (5, .int x_59.1), (4, .int x_47.1), (0, .ref b), (1, .ref q_1), (2, .int s_29.1), (3, .int (x_35 + (43 * s_29.1)))] dL_law_167 (by decide) rfl rfl ?_
                  refine xr_lv (lv' := [(0, .ref b), (1, .ref q_1), (2, .int s_29.1), (3, .int (x_35 + (43 * s_29.1))), (7, .int (x_272.1 + x_276.1)), (8, .int (x_280.1 + x_284.1)), (9, .int x_268.1)]) [6, 7, 8, 9, 2, 1, 0] rfl ?_
                  obtain ⟨b_312, hb_312, ho_29⟩ := yf_b ho_29
                  have K_312 : ∀ z_312, b_312 = .inl z_312 → X p l e room_1 s m args below meth c D A H0 11 Q [CW q_1 z_28 cy z_312.2.1 z_312.2.2] (s_29.2.2.2.1 + 1) (s_29.2.2.2.2 + 6) [(0, .ref b), (1, .ref q_1), (2, .int s_29.1), (3, .int (x_35 + (43 * s_29.1))), (7, .int (x_272.1 + x_276.1)), (8, .int (x_280.1 + x_284.1))] 200 [] := by
                    intro z_312 e_312; subst e_312; replace ho_29 := ybr_l ho_29
                    refine xr_iconst (n := 201) (v := 0) C dL_law_200 rfl rfl ?_
                    refine xr_istore (n := 203) C [(9, .int 0), (0, .ref b), (1, .ref q_1), (2, .int s_29.1), (3, .int (x_35 + (43 * s_29.1))), (7, .int (x_272.1 + x_276.1)), (8, .int (x_280.1 + x_284.1))] dL_law_201 (by decide) rfl rfl ?_
                    refine xr_lv (lv' := [(0, .ref b), (1, .ref q_1), (2, .int s_29.1), (3, .int (x_35 + (43 * s_29.1))), (7, .int (x_272.1 + x_276.1)), (8, .int (x_280.1 + x_284.1)), (9, .int 0)]) [1, 2, 3, 4, 5, 6, 0] rfl ?_
                    obtain ⟨b_313, hb_313, ho_29⟩ := yf_b ho_29
                    have K_313 : ∀ z_313, b_313 = .inl z_313 → X p l e room_1 s m args below meth c D A H0 11 Q [CW q_1 z_28 cy z_313.2.1 z_313.2.2] (s_29.2.2.2.1 + 1) (s_29.2.2.2.2 + 6) [(0, .ref b), (1, .ref q_1), (2, .int s_29.1), (3, .int (x_35 + (43 * s_29.1))), (7, .int (x_272.1 + x_276.1)), (8, .int (x_280.1 + x_284.1))] 253 [] := by
                      intro z_313 e_313; subst e_313; replace ho_29 := ybr_l ho_29
                      refine xr_iload_n (n := 254) (j := 3) C dL_law_253 rfl rfl ?_
                      refine xr_iconst (n := 255) (v := 4) C dL_law_254 rfl rfl ?_
                      refine xr_ishr (n := 256) C dL_law_255 rfl ?_
                      refine xr_iload (n := 258) (j := 4) C dL_law_256 rfl rfl ?_
                      obtain ⟨x_314, hx_314, ho_29⟩ := yf_b ho_29
                      refine xr_callSp (n := 261) (As := [.int ((x_35 + (43 * s_29.1)) >>> ((4 : Int32) &&& 31)), .int (x_272.1 + x_276.1)]) (rest := []) C (kL_below l D cy (i1 := (x_35 + (43 * s_29.1)) >>> ((4 : Int32) &&& 31)) (i2 := x_272.1 + x_276.1) hx_314) mL_below u_748 u_749 1 [] [0] rfl (by decide +kernel) rfl rfl rfl rfl (Nat.le_of_ble_eq_true rfl) (Nat.le_of_ble_eq_true rfl) (Nat.le_of_ble_eq_true rfl) g_43.1 g_43.2 dL_law_258 rfl (fun _ _ hp => hp.2) (fun v_315 hp_317 => ?_)
                      obtain ⟨rfl, -⟩ := hp_317
                      refine xr_st (st' := [.int x_314]) rfl ?_
                      refine xr_istore (n := 263) C [(9, .int x_314), (0, .ref b), (1, .ref q_1), (2, .int s_29.1), (3, .int (x_35 + (43 * s_29.1))), (7, .int (x_272.1 + x_276.1)), (8, .int (x_280.1 + x_284.1))] dL_law_261 (by decide) rfl rfl ?_
                      refine xr_iload_n (n := 264) (j := 4) C dL_law_263 rfl rfl ?_
                      refine xr_bipush (n := 266) (v := 6) C dL_law_264 rfl rfl ?_
                      refine xr_ishr (n := 267) C dL_law_266 rfl ?_
                      refine xr_iload (n := 269) (j := 6) C dL_law_267 rfl rfl ?_
                      obtain ⟨x_318, hx_318, ho_29⟩ := yf_b ho_29
                      refine xr_callSp (n := 272) (As := [.int ((x_35 + (43 * s_29.1)) >>> ((6 : Int32) &&& 31)), .int (x_280.1 + x_284.1)]) (rest := []) C (kL_below l D cy (i1 := (x_35 + (43 * s_29.1)) >>> ((6 : Int32) &&& 31)) (i2 := x_280.1 + x_284.1) hx_318) mL_below u_748 u_749 1 [] [0] rfl (by decide +kernel) rfl rfl rfl rfl (Nat.le_of_ble_eq_true rfl) (Nat.le_of_ble_eq_true rfl) (Nat.le_of_ble_eq_true rfl) g_43.1 g_43.2 dL_law_269 rfl (fun _ _ hp => hp.2) (fun v_319 hp_321 => ?_)
                      obtain ⟨rfl, -⟩ := hp_321
                      refine xr_st (st' := [.int x_318]) rfl ?_
                      refine xr_istore (n := 274) C [(10, .int x_318), (9, .int x_314), (0, .ref b), (1, .ref q_1), (2, .int s_29.1), (3, .int (x_35 + (43 * s_29.1))), (7, .int (x_272.1 + x_276.1)), (8, .int (x_280.1 + x_284.1))] dL_law_272 (by decide) rfl rfl ?_
                      refine xr_aload_n (n := 275) (j := 3) C dL_law_274 rfl rfl ?_
                      refine xr_iconst (n := 276) (v := 4) C dL_law_275 rfl rfl ?_
                      obtain ⟨x_322, hx_322, ho_29⟩ := yf_b ho_29
                      refine xr_callVP (n := 279) (As := [.int 4]) (rest := []) C (kgX6_mesh l D cy (x := q_1) (a := z_28) (n := z_313.2.1) (t := z_313.2.2) (i1 := 4) hx_322) mX6_mesh u_607 u_608 u_609 0 rfl (CW_head _ _ _ _ _) rfl 1 [0] [] rfl (by decide +kernel) rfl rfl rfl rfl (Nat.le_of_ble_eq_true rfl) (Nat.le_of_ble_eq_true rfl) (Nat.le_of_ble_eq_true rfl) g_43.1 g_43.2 dL_law_276 rfl (fun v_323 u_324 hp_325 => ?_)
                      obtain ⟨rfl, rfl⟩ := hp_325
                      refine xr_perm C 1 [0] [] [CW q_1 z_28 cy x_322.2.1 x_322.2.2] rfl (by decide +kernel) rfl ?_
                      refine xr_st (st' := [.int x_322.1]) rfl ?_
                      refine xr_iconst (n := 280) (v := 1) C dL_law_279 rfl rfl ?_
                      refine xr_icmp_ne (tgt := 339) (n := 283) C dL_law_280 rfl rfl (fun c_326 => ?_) (fun c_326 => ?_)
                      · replace ho_29 := yf_f c_326 ho_29
                        refine xr_iload_n (n := 340) (j := 4) C dL_law_339 rfl rfl ?_
                        refine xr_bipush (n := 342) (v := 12) C dL_law_340 rfl rfl ?_
                        obtain ⟨g_327, ho_29⟩ := yf_g ho_29
                        refine xr_irem (n := 343) C dL_law_342 g_327 rfl ?_
                        refine xr_bipush (n := 345) (v := 11) C dL_law_343 rfl rfl ?_
                        refine xr_icmp_ne (tgt := 373) (n := 348) C dL_law_345 rfl rfl (fun c_328 => ?_) (fun c_328 => ?_)
                        · replace ho_29 := yf_f c_328 ho_29
                          refine xr_iinc (j := 4) (v := s_29.1 + 1) (n := 376) C [(2, .int (s_29.1 + 1)), (10, .int x_318), (9, .int x_314), (0, .ref b), (1, .ref q_1), (3, .int (x_35 + (43 * s_29.1))), (7, .int (x_272.1 + x_276.1)), (8, .int (x_280.1 + x_284.1))] dL_law_373 rfl rfl (by decide) rfl rfl ?_
                          refine xr_goto (tgt := 10) C dL_law_376 rfl ?_
                          refine xr_lv (lv' := [(0, .ref b), (1, .ref q_1), (2, .int (s_29.1 + 1))]) [3, 4, 0] rfl ?_
                          exact hk_29 (s_29.1 + 1, x_322.2.1, x_322.2.2, s_29.2.2.2.1 + 1, s_29.2.2.2.2 + 6) (Option.some.inj ho_29).symm
                        · replace ho_29 := yf_t c_328 ho_29
                          refine xr_aload_n (n := 349) (j := 3) C dL_law_348 rfl rfl ?_
                          obtain ⟨x_329, hx_329, ho_29⟩ := yf_b ho_29
                          refine xr_callVP (n := 352) (As := []) (rest := []) C (kgX6_digest l D cy (x := q_1) (a := z_28) (n := x_322.2.1) (t := x_322.2.2) hx_329) mX6_digest u_698 u_699 u_700 0 rfl (CW_head _ _ _ _ _) rfl 1 [0] [] rfl (by decide +kernel) rfl rfl rfl rfl (Nat.le_of_ble_eq_true rfl) (Nat.le_of_ble_eq_true rfl) (Nat.le_of_ble_eq_true rfl) g_43.1 g_43.2 dL_law_349 rfl (fun v_330 u_331 hp_332 => ?_)
                          obtain ⟨rfl, rfl⟩ := hp_332
                          refine xr_perm C 1 [0] [] [CW q_1 z_28 cy x_329.2.1 x_329.2.2] rfl (by decide +kernel) rfl ?_
                          refine xr_st (st' := [.long x_329.1]) rfl ?_
                          refine xr_lstore (n := 354) C [(6, .long x_329.1), (10, .int x_318), (9, .int x_314), (0, .ref b), (1, .ref q_1), (2, .int s_29.1), (3, .int (x_35 + (43 * s_29.1))), (8, .int (x_280.1 + x_284.1))] dL_law_352 (by decide) rfl rfl ?_
                          refine xr_aload_n (n := 355) (j := 4) C dL_law_354 rfl rfl ?_
                          obtain ⟨x_333, hx_333, ho_29⟩ := yf_b ho_29
                          refine xr_callVP (n := 358) (As := []) (rest := []) C (kgX6_isSound l D cy (x := q_1) (a := z_28) (n := x_329.2.1) (t := x_329.2.2) hx_333) mX6_isSound u_664 u_665 u_666 0 rfl (CW_head _ _ _ _ _) rfl 1 [0] [] rfl (by decide +kernel) rfl rfl rfl rfl (Nat.le_of_ble_eq_true rfl) (Nat.le_of_ble_eq_true rfl) (Nat.le_of_ble_eq_true rfl) g_43.1 g_43.2 dL_law_355 rfl (fun v_334 u_335 hp_336 => ?_)
                          obtain ⟨rfl, rfl⟩ := hp_336
                          refine xr_perm C 1 [0] [] [CW q_1 z_28 cy x_333.2.1 x_333.2.2] rfl (by decide +kernel) rfl ?_
                          refine xr_st (st' := [.int x_333.1]) rfl ?_
                          refine xr_if_eq (tgt := 371) (n := 361) C dL_law_358 rfl rfl (fun c_337 => ?_) (fun c_337 => ?_)
                          · replace ho_29 := yf_t c_337 ho_29
                            refine xr_iconst (n := 372) (v := 0) C dL_law_371 rfl rfl ?_
                            have e_338 := hx_29 _ (Option.some.inj ho_29).symm
                            subst e_338
                            replace hR := ybr_r hR
                            obtain rfl := Option.some.inj hR
                            exact ret 0 rfl g_43.1 g_43.2 dL_law_372
                          · replace ho_29 := yf_f c_337 ho_29
                            refine xr_aload_n (n := 362) (j := 4) C dL_law_361 rfl rfl ?_
                            obtain ⟨x_339, hx_339, ho_29⟩ := yf_b ho_29
                            refine xr_callVP (n := 365) (As := []) (rest := []) C (kgX6_digest l D cy (x := q_1) (a := z_28) (n := x_333.2.1) (t := x_333.2.2) hx_339) mX6_digest u_698 u_699 u_700 0 rfl (CW_head _ _ _ _ _) rfl 1 [0] [] rfl (by decide +kernel) rfl rfl rfl rfl (Nat.le_of_ble_eq_true rfl) (Nat.le_of_ble_eq_true rfl) (Nat.le_of_ble_eq_true rfl) g_43.1 g_43.2 dL_law_362 rfl (fun v_340 u_341 hp_342 => ?_)
                            obtain ⟨rfl, rfl⟩ := hp_342
                            refine xr_perm C 1 [0] [] [CW q_1 z_28 cy x_339.2.1 x_339.2.2] rfl (by decide +kernel) rfl ?_
                            refine xr_st (st' := [.long x_339.1]) rfl ?_
                            refine xr_lload (n := 367) (j := 0) C dL_law_365 rfl rfl ?_
                            refine xr_lcmp (n := 368) C dL_law_367 rfl ?_
                            refine xr_if_eq (tgt := 373) (n := 371) C dL_law_368 rfl rfl (fun c_343 => ?_) (fun c_343 => ?_)
                            · replace ho_29 := yf_t c_343 ho_29
                              refine xr_iinc (j := 5) (v := s_29.1 + 1) (n := 376) C [(2, .int (s_29.1 + 1)), (6, .long x_329.1), (10, .int x_318), (9, .int x_314), (0, .ref b), (1, .ref q_1), (3, .int (x_35 + (43 * s_29.1))), (8, .int (x_280.1 + x_284.1))] dL_law_373 rfl rfl (by decide) rfl rfl ?_
                              refine xr_goto (tgt := 10) C dL_law_376 rfl ?_
                              refine xr_lv (lv' := [(0, .ref b), (1, .ref q_1), (2, .int (s_29.1 + 1))]) [4, 5, 0] rfl ?_
                              exact hk_29 (s_29.1 + 1, x_339.2.1, x_339.2.2, s_29.2.2.2.1 + 1, s_29.2.2.2.2 + 6) (Option.some.inj ho_29).symm
                            · replace ho_29 := yf_f c_343 ho_29
                              refine xr_iconst (n := 372) (v := 0) C dL_law_371 rfl rfl ?_
                              have e_344 := hx_29 _ (Option.some.inj ho_29).symm
                              subst e_344
                              replace hR := ybr_r hR
                              obtain rfl := Option.some.inj hR
                              exact ret 0 rfl g_43.1 g_43.2 dL_law_372
                      · replace ho_29 := yf_t c_326 ho_29
                        refine xr_aload_n (n := 284) (j := 3) C dL_law_283 rfl rfl ?_
                        refine xr_iload (n := 286) (j := 1) C dL_law_284 rfl rfl ?_
                        refine xr_iload (n := 288) (j := 0) C dL_law_286 rfl rfl ?_
                        refine xr_iconst (n := 289) (v := 1) C dL_law_288 rfl rfl ?_
                        refine xr_iload_n (n := 290) (j := 5) C dL_law_289 rfl rfl ?_
                        refine xr_iconst (n := 291) (v := 5) C dL_law_290 rfl rfl ?_
                        refine xr_ishr (n := 292) C dL_law_291 rfl ?_
                        refine xr_sipush (n := 295) (v := 500) C dL_law_292 rfl rfl ?_
                        obtain ⟨x_345, hx_345, ho_29⟩ := yf_b ho_29
                        refine xr_callSp (n := 298) (As := [.int ((x_35 + (43 * s_29.1)) >>> ((5 : Int32) &&& 31)), .int 500]) (rest := [.int 1, .int x_318, .int x_314, .ref q_1]) C (kL_below l D cy (i1 := (x_35 + (43 * s_29.1)) >>> ((5 : Int32) &&& 31)) (i2 := 500) hx_345) mL_below u_748 u_749 1 [] [0] rfl (by decide +kernel) rfl rfl rfl rfl (Nat.le_of_ble_eq_true rfl) (Nat.le_of_ble_eq_true rfl) (Nat.le_of_ble_eq_true rfl) g_43.1 g_43.2 dL_law_295 rfl (fun _ _ hp => hp.2) (fun v_346 hp_348 => ?_)
                        obtain ⟨rfl, -⟩ := hp_348
                        refine xr_st (st' := [.int x_345, .int 1, .int x_318, .int x_314, .ref q_1]) rfl ?_
                        refine xr_iadd (n := 299) C dL_law_298 rfl ?_
                        obtain ⟨x_349, hx_349, ho_29⟩ := yf_b ho_29
                        refine xr_callVP (n := 302) (As := [.int x_314, .int x_318, .int (1 + x_345)]) (rest := []) C (kgX6_bend l D cy (x := q_1) (a := z_28) (n := x_322.2.1) (t := x_322.2.2) (i1 := x_314) (i2 := x_318) (i3 := 1 + x_345) hx_349) mX6_bend u_557 u_558 u_559 0 rfl (CW_head _ _ _ _ _) rfl 1 [0] [] rfl (by decide +kernel) rfl rfl rfl rfl (Nat.le_of_ble_eq_true rfl) (Nat.le_of_ble_eq_true rfl) (Nat.le_of_ble_eq_true rfl) g_43.1 g_43.2 dL_law_299 rfl (fun v_350 u_351 hp_352 => ?_)
                        obtain ⟨rfl, rfl⟩ := hp_352
                        refine xr_perm C 1 [0] [] [CW q_1 z_28 cy x_349.2.1 x_349.2.2] rfl (by decide +kernel) rfl ?_
                        refine xr_st (st' := [.int x_349.1]) rfl ?_
                        refine xr_pop (n := 303) C dL_law_302 rfl rfl ?_
                        refine xr_aload_n (n := 304) (j := 3) C dL_law_303 rfl rfl ?_
                        obtain ⟨x_353, hx_353, ho_29⟩ := yf_b ho_29
                        refine xr_callVP (n := 307) (As := []) (rest := []) C (kgX6_check l D cy (x := q_1) (a := z_28) (n := x_349.2.1) (t := x_349.2.2) hx_353) mX6_check u_584 u_585 u_586 0 rfl (CW_head _ _ _ _ _) rfl 1 [0] [] rfl (by decide +kernel) rfl rfl rfl rfl (Nat.le_of_ble_eq_true rfl) (Nat.le_of_ble_eq_true rfl) (Nat.le_of_ble_eq_true rfl) g_43.1 g_43.2 dL_law_304 rfl (fun v_354 u_355 hp_356 => ?_)
                        obtain ⟨rfl, rfl⟩ := hp_356
                        refine xr_perm C 1 [0] [] [CW q_1 z_28 cy x_353.2.1 x_353.2.2] rfl (by decide +kernel) rfl ?_
                        refine xr_st (st' := [.int x_353.1]) rfl ?_
                        refine xr_iconst (n := 308) (v := 1) C dL_law_307 rfl rfl ?_
                        refine xr_icmp_ne (tgt := 337) (n := 311) C dL_law_308 rfl rfl (fun c_357 => ?_) (fun c_357 => ?_)
                        · replace ho_29 := yf_f c_357 ho_29
                          refine xr_iconst (n := 338) (v := 0) C dL_law_337 rfl rfl ?_
                          have e_358 := hx_29 _ (Option.some.inj ho_29).symm
                          subst e_358
                          replace hR := ybr_r hR
                          obtain rfl := Option.some.inj hR
                          exact ret 0 rfl g_43.1 g_43.2 dL_law_338
                        · replace ho_29 := yf_t c_357 ho_29
                          refine xr_aload_n (n := 312) (j := 3) C dL_law_311 rfl rfl ?_
                          refine xr_iload (n := 314) (j := 1) C dL_law_312 rfl rfl ?_
                          refine xr_iload (n := 316) (j := 0) C dL_law_314 rfl rfl ?_
                          obtain ⟨x_359, hx_359, ho_29⟩ := yf_b ho_29
                          refine xr_callVP (n := 319) (As := [.int x_314, .int x_318]) (rest := []) C (kgX6_result l D cy (x := q_1) (a := z_28) (n := x_353.2.1) (t := x_353.2.2) (i1 := x_314) (i2 := x_318) hx_359) mX6_result u_619 u_620 u_621 0 rfl (CW_head _ _ _ _ _) rfl 1 [0] [] rfl (by decide +kernel) rfl rfl rfl rfl (Nat.le_of_ble_eq_true rfl) (Nat.le_of_ble_eq_true rfl) (Nat.le_of_ble_eq_true rfl) g_43.1 g_43.2 dL_law_316 rfl (fun v_360 u_361 hp_362 => ?_)
                          obtain ⟨rfl, rfl⟩ := hp_362
                          refine xr_perm C 1 [0] [] [CW q_1 z_28 cy x_359.2.1 x_359.2.2] rfl (by decide +kernel) rfl ?_
                          refine xr_st (st' := [.int x_359.1]) rfl ?_
                          refine xr_aload_n (n := 320) (j := 3) C dL_law_319 rfl rfl ?_
                          refine xr_iload (n := 322) (j := 1) C dL_law_320 rfl rfl ?_
                          refine xr_iload (n := 324) (j := 0) C dL_law_322 rfl rfl ?_
                          obtain ⟨x_363, hx_363, ho_29⟩ := yf_b ho_29
                          refine xr_callVP (n := 327) (As := [.int x_314, .int x_318]) (rest := [.int x_359.1]) C (kgX6_plain l D cy (x := q_1) (a := z_28) (n := x_359.2.1) (t := x_359.2.2) (i1 := x_314) (i2 := x_318) hx_363) mX6_plain u_623 u_624 u_625 0 rfl (CW_head _ _ _ _ _) rfl 1 [0] [] rfl (by decide +kernel) rfl rfl rfl rfl (Nat.le_of_ble_eq_true rfl) (Nat.le_of_ble_eq_true rfl) (Nat.le_of_ble_eq_true rfl) g_43.1 g_43.2 dL_law_324 rfl (fun v_364 u_365 hp_366 => ?_)
                          obtain ⟨rfl, rfl⟩ := hp_366
                          refine xr_perm C 1 [0] [] [CW q_1 z_28 cy x_363.2.1 x_363.2.2] rfl (by decide +kernel) rfl ?_
                          refine xr_st (st' := [.int x_363.1, .int x_359.1]) rfl ?_
                          refine xr_icmp_ne (tgt := 337) (n := 330) C dL_law_327 rfl rfl (fun c_367 => ?_) (fun c_367 => ?_)
                          · replace ho_29 := yf_f c_367 ho_29
                            refine xr_iconst (n := 338) (v := 0) C dL_law_337 rfl rfl ?_
                            have e_368 := hx_29 _ (Option.some.inj ho_29).symm
                            subst e_368
                            replace hR := ybr_r hR
                            obtain rfl := Option.some.inj hR
                            exact ret 0 rfl g_43.1 g_43.2 dL_law_338
                          · replace ho_29 := yf_t c_367 ho_29
                            refine xr_aload_n (n := 331) (j := 3) C dL_law_330 rfl rfl ?_
                            obtain ⟨x_369, hx_369, ho_29⟩ := yf_b ho_29
                            refine xr_callVP (n := 334) (As := []) (rest := []) C (kgX6_check l D cy (x := q_1) (a := z_28) (n := x_363.2.1) (t := x_363.2.2) hx_369) mX6_check u_584 u_585 u_586 0 rfl (CW_head _ _ _ _ _) rfl 1 [0] [] rfl (by decide +kernel) rfl rfl rfl rfl (Nat.le_of_ble_eq_true rfl) (Nat.le_of_ble_eq_true rfl) (Nat.le_of_ble_eq_true rfl) g_43.1 g_43.2 dL_law_331 rfl (fun v_370 u_371 hp_372 => ?_)
                            obtain ⟨rfl, rfl⟩ := hp_372
                            refine xr_perm C 1 [0] [] [CW q_1 z_28 cy x_369.2.1 x_369.2.2] rfl (by decide +kernel) rfl ?_
                            refine xr_st (st' := [.int x_369.1]) rfl ?_
                            refine xr_if_eq (tgt := 339) (n := 337) C dL_law_334 rfl rfl (fun c_373 => ?_) (fun c_373 => ?_)
                            · replace ho_29 := yf_t c_373 ho_29
                              refine xr_iload_n (n := 340) (j := 4) C dL_law_339 rfl rfl ?_
                              refine xr_bipush (n := 342) (v := 12) C dL_law_340 rfl rfl ?_
                              obtain ⟨g_374, ho_29⟩ := yf_g ho_29
                              refine xr_irem (n := 343) C dL_law_342 g_374 rfl ?_
                              refine xr_bipush (n := 345) (v := 11) C dL_law_343 rfl rfl ?_
                              refine xr_icmp_ne (tgt := 373) (n := 348) C dL_law_345 rfl rfl (fun c_375 => ?_) (fun c_375 => ?_)
                              · replace ho_29 := yf_f c_375 ho_29
                                refine xr_iinc (j := 4) (v := s_29.1 + 1) (n := 376) C [(2, .int (s_29.1 + 1)), (10, .int x_318), (9, .int x_314), (0, .ref b), (1, .ref q_1), (3, .int (x_35 + (43 * s_29.1))), (7, .int (x_272.1 + x_276.1)), (8, .int (x_280.1 + x_284.1))] dL_law_373 rfl rfl (by decide) rfl rfl ?_
                                refine xr_goto (tgt := 10) C dL_law_376 rfl ?_
                                refine xr_lv (lv' := [(0, .ref b), (1, .ref q_1), (2, .int (s_29.1 + 1))]) [3, 4, 0] rfl ?_
                                exact hk_29 (s_29.1 + 1, x_369.2.1, x_369.2.2, s_29.2.2.2.1 + 1, s_29.2.2.2.2 + 6) (Option.some.inj ho_29).symm
                              · replace ho_29 := yf_t c_375 ho_29
                                refine xr_aload_n (n := 349) (j := 3) C dL_law_348 rfl rfl ?_
                                obtain ⟨x_376, hx_376, ho_29⟩ := yf_b ho_29
                                refine xr_callVP (n := 352) (As := []) (rest := []) C (kgX6_digest l D cy (x := q_1) (a := z_28) (n := x_369.2.1) (t := x_369.2.2) hx_376) mX6_digest u_698 u_699 u_700 0 rfl (CW_head _ _ _ _ _) rfl 1 [0] [] rfl (by decide +kernel) rfl rfl rfl rfl (Nat.le_of_ble_eq_true rfl) (Nat.le_of_ble_eq_true rfl) (Nat.le_of_ble_eq_true rfl) g_43.1 g_43.2 dL_law_349 rfl (fun v_377 u_378 hp_379 => ?_)
                                obtain ⟨rfl, rfl⟩ := hp_379
                                refine xr_perm C 1 [0] [] [CW q_1 z_28 cy x_376.2.1 x_376.2.2] rfl (by decide +kernel) rfl ?_
                                refine xr_st (st' := [.long x_376.1]) rfl ?_
                                refine xr_lstore (n := 354) C [(6, .long x_376.1), (10, .int x_318), (9, .int x_314), (0, .ref b), (1, .ref q_1), (2, .int s_29.1), (3, .int (x_35 + (43 * s_29.1))), (8, .int (x_280.1 + x_284.1))] dL_law_352 (by decide) rfl rfl ?_
                                refine xr_aload_n (n := 355) (j := 4) C dL_law_354 rfl rfl ?_
                                obtain ⟨x_380, hx_380, ho_29⟩ := yf_b ho_29
                                refine xr_callVP (n := 358) (As := []) (rest := []) C (kgX6_isSound l D cy (x := q_1) (a := z_28) (n := x_376.2.1) (t := x_376.2.2) hx_380) mX6_isSound u_664 u_665 u_666 0 rfl (CW_head _ _ _ _ _) rfl 1 [0] [] rfl (by decide +kernel) rfl rfl rfl rfl (Nat.le_of_ble_eq_true rfl) (Nat.le_of_ble_eq_true rfl) (Nat.le_of_ble_eq_true rfl) g_43.1 g_43.2 dL_law_355 rfl (fun v_381 u_382 hp_383 => ?_)
                                obtain ⟨rfl, rfl⟩ := hp_383
                                refine xr_perm C 1 [0] [] [CW q_1 z_28 cy x_380.2.1 x_380.2.2] rfl (by decide +kernel) rfl ?_
                                refine xr_st (st' := [.int x_380.1]) rfl ?_
                                refine xr_if_eq (tgt := 371) (n := 361) C dL_law_358 rfl rfl (fun c_384 => ?_) (fun c_384 => ?_)
                                · replace ho_29 := yf_t c_384 ho_29
                                  refine xr_iconst (n := 372) (v := 0) C dL_law_371 rfl rfl ?_
                                  have e_385 := hx_29 _ (Option.some.inj ho_29).symm
                                  subst e_385
                                  replace hR := ybr_r hR
                                  obtain rfl := Option.some.inj hR
                                  exact ret 0 rfl g_43.1 g_43.2 dL_law_372
                                · replace ho_29 := yf_f c_384 ho_29
                                  refine xr_aload_n (n := 362) (j := 4) C dL_law_361 rfl rfl ?_
                                  obtain ⟨x_386, hx_386, ho_29⟩ := yf_b ho_29
                                  refine xr_callVP (n := 365) (As := []) (rest := []) C (kgX6_digest l D cy (x := q_1) (a := z_28) (n := x_380.2.1) (t := x_380.2.2) hx_386) mX6_digest u_698 u_699 u_700 0 rfl (CW_head _ _ _ _ _) rfl 1 [0] [] rfl (by decide +kernel) rfl rfl rfl rfl (Nat.le_of_ble_eq_true rfl) (Nat.le_of_ble_eq_true rfl) (Nat.le_of_ble_eq_true rfl) g_43.1 g_43.2 dL_law_362 rfl (fun v_387 u_388 hp_389 => ?_)
                                  obtain ⟨rfl, rfl⟩ := hp_389
                                  refine xr_perm C 1 [0] [] [CW q_1 z_28 cy x_386.2.1 x_386.2.2] rfl (by decide +kernel) rfl ?_
                                  refine xr_st (st' := [.long x_386.1]) rfl ?_
                                  refine xr_lload (n := 367) (j := 0) C dL_law_365 rfl rfl ?_
                                  refine xr_lcmp (n := 368) C dL_law_367 rfl ?_
                                  refine xr_if_eq (tgt := 373) (n := 371) C dL_law_368 rfl rfl (fun c_390 => ?_) (fun c_390 => ?_)
                                  · replace ho_29 := yf_t c_390 ho_29
                                    refine xr_iinc (j := 5) (v := s_29.1 + 1) (n := 376) C [(2, .int (s_29.1 + 1)), (6, .long x_376.1), (10, .int x_318), (9, .int x_314), (0, .ref b), (1, .ref q_1), (3, .int (x_35 + (43 * s_29.1))), (8, .int (x_280.1 + x_284.1))] dL_law_373 rfl rfl (by decide) rfl rfl ?_
                                    refine xr_goto (tgt := 10) C dL_law_376 rfl ?_
                                    refine xr_lv (lv' := [(0, .ref b), (1, .ref q_1), (2, .int (s_29.1 + 1))]) [4, 5, 0] rfl ?_
                                    exact hk_29 (s_29.1 + 1, x_386.2.1, x_386.2.2, s_29.2.2.2.1 + 1, s_29.2.2.2.2 + 6) (Option.some.inj ho_29).symm
                                  · replace ho_29 := yf_f c_390 ho_29
                                    refine xr_iconst (n := 372) (v := 0) C dL_law_371 rfl rfl ?_
                                    have e_391 := hx_29 _ (Option.some.inj ho_29).symm
                                    subst e_391
                                    replace hR := ybr_r hR
                                    obtain rfl := Option.some.inj hR
                                    exact ret 0 rfl g_43.1 g_43.2 dL_law_372
                            · replace ho_29 := yf_f c_373 ho_29
                              refine xr_iconst (n := 338) (v := 0) C dL_law_337 rfl rfl ?_
                              have e_392 := hx_29 _ (Option.some.inj ho_29).symm
                              subst e_392
                              replace hR := ybr_r hR
                              obtain rfl := Option.some.inj hR
                              exact ret 0 rfl g_43.1 g_43.2 dL_law_338
                    refine y_loop (P := fun s_313 => X p l e room_1 s m args below meth c D A H0 11 Q [CW q_1 z_28 cy s_313.2.1 s_313.2.2] (s_29.2.2.2.1 + 1) (s_29.2.2.2.2 + 6) [(0, .ref b), (1, .ref q_1), (2, .int s_29.1), (3, .int (x_35 + (43 * s_29.1))), (7, .int (x_272.1 + x_276.1)), (8, .int (x_280.1 + x_284.1)), (9, .int s_313.1)] 203 []) ?_ _ _ hb_313
                    intro s_313 o_313 ho_313 hk_313 hx_313
                    refine xr_iload (n := 205) (j := 6) C dL_law_203 rfl rfl ?_
                    refine xr_iload (n := 207) (j := 4) C dL_law_205 rfl rfl ?_
                    refine xr_icmp_ge (tgt := 253) (n := 210) C dL_law_207 rfl rfl (fun c_393 => ?_) (fun c_393 => ?_)
                    · replace ho_313 := yf_t c_393 ho_313
                      refine xr_lv (lv' := [(0, .ref b), (1, .ref q_1), (2, .int s_29.1), (3, .int (x_35 + (43 * s_29.1))), (7, .int (x_272.1 + x_276.1)), (8, .int (x_280.1 + x_284.1))]) [0, 1, 2, 3, 4, 5] rfl ?_
                      have e_394 := hx_313 _ (Option.some.inj ho_313).symm
                      exact K_313 _ e_394.symm
                    · replace ho_313 := yf_f c_393 ho_313
                      refine xr_iconst (n := 211) (v := 0) C dL_law_210 rfl rfl ?_
                      refine xr_istore (n := 213) C [(10, .int 0), (0, .ref b), (1, .ref q_1), (2, .int s_29.1), (3, .int (x_35 + (43 * s_29.1))), (7, .int (x_272.1 + x_276.1)), (8, .int (x_280.1 + x_284.1)), (9, .int s_313.1)] dL_law_211 (by decide) rfl rfl ?_
                      refine xr_lv (lv' := [(0, .ref b), (1, .ref q_1), (2, .int s_29.1), (3, .int (x_35 + (43 * s_29.1))), (7, .int (x_272.1 + x_276.1)), (8, .int (x_280.1 + x_284.1)), (9, .int s_313.1), (10, .int 0)]) [1, 2, 3, 4, 5, 6, 7, 0] rfl ?_
                      obtain ⟨b_395, hb_395, ho_313⟩ := yf_b ho_313
                      have K_395 : ∀ z_395, b_395 = .inl z_395 → X p l e room_1 s m args below meth c D A H0 11 Q [CW q_1 z_28 cy z_395.2.1 z_395.2.2] (s_29.2.2.2.1 + 1) (s_29.2.2.2.2 + 6) [(0, .ref b), (1, .ref q_1), (2, .int s_29.1), (3, .int (x_35 + (43 * s_29.1))), (7, .int (x_272.1 + x_276.1)), (8, .int (x_280.1 + x_284.1)), (9, .int s_313.1)] 247 [] := by
                        intro z_395 e_395; subst e_395; replace ho_313 := ybr_l ho_313
                        refine xr_iinc (j := 6) (v := s_313.1 + 1) (n := 250) C [(9, .int (s_313.1 + 1)), (0, .ref b), (1, .ref q_1), (2, .int s_29.1), (3, .int (x_35 + (43 * s_29.1))), (7, .int (x_272.1 + x_276.1)), (8, .int (x_280.1 + x_284.1))] dL_law_247 rfl rfl (by decide) rfl rfl ?_
                        refine xr_goto (tgt := 203) C dL_law_250 rfl ?_
                        refine xr_lv (lv' := [(0, .ref b), (1, .ref q_1), (2, .int s_29.1), (3, .int (x_35 + (43 * s_29.1))), (7, .int (x_272.1 + x_276.1)), (8, .int (x_280.1 + x_284.1)), (9, .int (s_313.1 + 1))]) [1, 2, 3, 4, 5, 6, 0] rfl ?_
                        exact hk_313 (s_313.1 + 1, z_395.2.1, z_395.2.2) (Option.some.inj ho_313).symm
                      refine y_loop (P := fun s_395 => X p l e room_1 s m args below meth c D A H0 11 Q [CW q_1 z_28 cy s_395.2.1 s_395.2.2] (s_29.2.2.2.1 + 1) (s_29.2.2.2.2 + 6) [(0, .ref b), (1, .ref q_1), (2, .int s_29.1), (3, .int (x_35 + (43 * s_29.1))), (7, .int (x_272.1 + x_276.1)), (8, .int (x_280.1 + x_284.1)), (9, .int s_313.1), (10, .int s_395.1)] 213 []) ?_ _ _ hb_395
                      intro s_395 o_395 ho_395 hk_395 hx_395
                      refine xr_iload (n := 215) (j := 7) C dL_law_213 rfl rfl ?_
                      refine xr_iload (n := 217) (j := 5) C dL_law_215 rfl rfl ?_
                      refine xr_icmp_ge (tgt := 247) (n := 220) C dL_law_217 rfl rfl (fun c_396 => ?_) (fun c_396 => ?_)
                      · replace ho_395 := yf_t c_396 ho_395
                        refine xr_lv (lv' := [(0, .ref b), (1, .ref q_1), (2, .int s_29.1), (3, .int (x_35 + (43 * s_29.1))), (7, .int (x_272.1 + x_276.1)), (8, .int (x_280.1 + x_284.1)), (9, .int s_313.1)]) [0, 1, 2, 3, 4, 5, 6] rfl ?_
                        have e_397 := hx_395 _ (Option.some.inj ho_395).symm
                        exact K_395 _ e_397.symm
                      · replace ho_395 := yf_f c_396 ho_395
                        refine xr_aload_n (n := 221) (j := 1) C dL_law_220 rfl rfl ?_
                        refine xr_iload (n := 223) (j := 6) C dL_law_221 rfl rfl ?_
                        refine xr_iload (n := 225) (j := 7) C dL_law_223 rfl rfl ?_
                        obtain ⟨x_398, hx_398, ho_395⟩ := yf_b ho_395
                        refine xr_callVP (n := 228) (As := [.int s_313.1, .int s_395.1]) (rest := []) C (kgX6_result l D cy (x := q_1) (a := z_28) (n := s_395.2.1) (t := s_395.2.2) (i1 := s_313.1) (i2 := s_395.1) hx_398) mX6_result u_619 u_620 u_621 0 rfl (CW_head _ _ _ _ _) rfl 1 [0] [] rfl (by decide +kernel) rfl rfl rfl rfl (Nat.le_of_ble_eq_true rfl) (Nat.le_of_ble_eq_true rfl) (Nat.le_of_ble_eq_true rfl) g_43.1 g_43.2 dL_law_225 rfl (fun v_399 u_400 hp_401 => ?_)
                        obtain ⟨rfl, rfl⟩ := hp_401
                        refine xr_perm C 1 [0] [] [CW q_1 z_28 cy x_398.2.1 x_398.2.2] rfl (by decide +kernel) rfl ?_
                        refine xr_st (st' := [.int x_398.1]) rfl ?_
                        refine xr_aload_n (n := 229) (j := 1) C dL_law_228 rfl rfl ?_
                        refine xr_iload (n := 231) (j := 6) C dL_law_229 rfl rfl ?_
                        refine xr_iload (n := 233) (j := 7) C dL_law_231 rfl rfl ?_
                        obtain ⟨x_402, hx_402, ho_395⟩ := yf_b ho_395
                        refine xr_callVP (n := 236) (As := [.int s_313.1, .int s_395.1]) (rest := [.int x_398.1]) C (kgX6_plain l D cy (x := q_1) (a := z_28) (n := x_398.2.1) (t := x_398.2.2) (i1 := s_313.1) (i2 := s_395.1) hx_402) mX6_plain u_623 u_624 u_625 0 rfl (CW_head _ _ _ _ _) rfl 1 [0] [] rfl (by decide +kernel) rfl rfl rfl rfl (Nat.le_of_ble_eq_true rfl) (Nat.le_of_ble_eq_true rfl) (Nat.le_of_ble_eq_true rfl) g_43.1 g_43.2 dL_law_233 rfl (fun v_403 u_404 hp_405 => ?_)
                        obtain ⟨rfl, rfl⟩ := hp_405
                        refine xr_perm C 1 [0] [] [CW q_1 z_28 cy x_402.2.1 x_402.2.2] rfl (by decide +kernel) rfl ?_
                        refine xr_st (st' := [.int x_402.1, .int x_398.1]) rfl ?_
                        refine xr_icmp_eq (tgt := 241) (n := 239) C dL_law_236 rfl rfl (fun c_406 => ?_) (fun c_406 => ?_)
                        · replace ho_395 := yf_t c_406 ho_395
                          refine xr_iinc (j := 7) (v := s_395.1 + 1) (n := 244) C [(10, .int (s_395.1 + 1)), (0, .ref b), (1, .ref q_1), (2, .int s_29.1), (3, .int (x_35 + (43 * s_29.1))), (7, .int (x_272.1 + x_276.1)), (8, .int (x_280.1 + x_284.1)), (9, .int s_313.1)] dL_law_241 rfl rfl (by decide) rfl rfl ?_
                          refine xr_goto (tgt := 213) C dL_law_244 rfl ?_
                          refine xr_lv (lv' := [(0, .ref b), (1, .ref q_1), (2, .int s_29.1), (3, .int (x_35 + (43 * s_29.1))), (7, .int (x_272.1 + x_276.1)), (8, .int (x_280.1 + x_284.1)), (9, .int s_313.1), (10, .int (s_395.1 + 1))]) [1, 2, 3, 4, 5, 6, 7, 0] rfl ?_
                          exact hk_395 (s_395.1 + 1, x_402.2.1, x_402.2.2) (Option.some.inj ho_395).symm
                        · replace ho_395 := yf_f c_406 ho_395
                          refine xr_iconst (n := 240) (v := 0) C dL_law_239 rfl rfl ?_
                          have e_407 := hx_395 _ (Option.some.inj ho_395).symm
                          subst e_407
                          replace ho_313 := ybr_r ho_313
                          have e_408 := hx_313 _ (Option.some.inj ho_313).symm
                          subst e_408
                          replace ho_29 := ybr_r ho_29
                          have e_409 := hx_29 _ (Option.some.inj ho_29).symm
                          subst e_409
                          replace hR := ybr_r hR
                          obtain rfl := Option.some.inj hR
                          exact ret 0 rfl g_43.1 g_43.2 dL_law_240
                  refine y_loop (P := fun s_312 => X p l e room_1 s m args below meth c D A H0 11 Q [CW q_1 z_28 cy s_312.2.1 s_312.2.2] (s_29.2.2.2.1 + 1) (s_29.2.2.2.2 + 6) [(0, .ref b), (1, .ref q_1), (2, .int s_29.1), (3, .int (x_35 + (43 * s_29.1))), (7, .int (x_272.1 + x_276.1)), (8, .int (x_280.1 + x_284.1)), (9, .int s_312.1)] 169 []) ?_ _ _ hb_312
                  intro s_312 o_312 ho_312 hk_312 hx_312
                  refine xr_iload (n := 171) (j := 6) C dL_law_169 rfl rfl ?_
                  refine xr_if_le (tgt := 200) (n := 174) C dL_law_171 rfl rfl (fun c_410 => ?_) (fun c_410 => ?_)
                  · replace ho_312 := yf_t c_410 ho_312
                    refine xr_lv (lv' := [(0, .ref b), (1, .ref q_1), (2, .int s_29.1), (3, .int (x_35 + (43 * s_29.1))), (7, .int (x_272.1 + x_276.1)), (8, .int (x_280.1 + x_284.1))]) [0, 1, 2, 3, 4, 5] rfl ?_
                    have e_411 := hx_312 _ (Option.some.inj ho_312).symm
                    exact K_312 _ e_411.symm
                  · replace ho_312 := yf_f c_410 ho_312
                    refine xr_aload_n (n := 175) (j := 1) C dL_law_174 rfl rfl ?_
                    refine xr_bipush (n := 177) (v := 7) C dL_law_175 rfl rfl ?_
                    obtain ⟨x_412, hx_412, ho_312⟩ := yf_b ho_312
                    refine xr_callVP (n := 180) (As := [.int 7]) (rest := []) C (kgX6_beat l D cy (x := q_1) (a := z_28) (n := s_312.2.1) (t := s_312.2.2) (i1 := 7) hx_412) mX6_beat u_461 u_462 u_463 0 rfl (CW_head _ _ _ _ _) rfl 1 [0] [] rfl (by decide +kernel) rfl rfl rfl rfl (Nat.le_of_ble_eq_true rfl) (Nat.le_of_ble_eq_true rfl) (Nat.le_of_ble_eq_true rfl) g_43.1 g_43.2 dL_law_177 rfl (fun v_413 u_414 hp_415 => ?_)
                    obtain ⟨rfl, rfl⟩ := hp_415
                    refine xr_perm C 1 [0] [] [CW q_1 z_28 cy x_412.2.1 x_412.2.2] rfl (by decide +kernel) rfl ?_
                    refine xr_st (st' := [.int x_412.1]) rfl ?_
                    refine xr_iconst (n := 181) (v := 0) C dL_law_180 rfl rfl ?_
                    refine xr_iload (n := 183) (j := 6) C dL_law_181 rfl rfl ?_
                    refine xr_bipush (n := 185) (v := 7) C dL_law_183 rfl rfl ?_
                    refine xr_isub (n := 186) C dL_law_185 rfl ?_
                    refine xr_mmax (n := 189) C u_811 u_519 u_42 u_520 (Nat.le_of_ble_eq_true rfl) (Nat.le_of_ble_eq_true rfl) g_43.1 g_43.2 dL_law_186 rfl ?_
                    refine xr_icmp_eq (tgt := 194) (n := 192) C dL_law_189 rfl rfl (fun c_416 => ?_) (fun c_416 => ?_)
                    · replace ho_312 := yf_t c_416 ho_312
                      obtain ⟨y_417, ey_417, ho_312⟩ := yf_l ho_312
                      refine xr_iinc (j := 6) (v := y_417) (n := 197) C [(9, .int y_417), (0, .ref b), (1, .ref q_1), (2, .int s_29.1), (3, .int (x_35 + (43 * s_29.1))), (7, .int (x_272.1 + x_276.1)), (8, .int (x_280.1 + x_284.1))] dL_law_194 rfl (Eq.trans (by rfl) ey_417) (by decide) rfl rfl ?_
                      refine xr_goto (tgt := 169) C dL_law_197 rfl ?_
                      refine xr_lv (lv' := [(0, .ref b), (1, .ref q_1), (2, .int s_29.1), (3, .int (x_35 + (43 * s_29.1))), (7, .int (x_272.1 + x_276.1)), (8, .int (x_280.1 + x_284.1)), (9, .int y_417)]) [1, 2, 3, 4, 5, 6, 0] rfl ?_
                      exact hk_312 (y_417, x_412.2.1, x_412.2.2) (Option.some.inj ho_312).symm
                    · replace ho_312 := yf_f c_416 ho_312
                      refine xr_iconst (n := 193) (v := 0) C dL_law_192 rfl rfl ?_
                      have e_418 := hx_312 _ (Option.some.inj ho_312).symm
                      subst e_418
                      replace ho_29 := ybr_r ho_29
                      have e_419 := hx_29 _ (Option.some.inj ho_29).symm
                      subst e_419
                      replace hR := ybr_r hR
                      obtain rfl := Option.some.inj hR
                      exact ret 0 rfl g_43.1 g_43.2 dL_law_193
                · replace ho_29 := yf_f c_311 ho_29
                  refine xr_iconst (n := 164) (v := 0) C dL_law_163 rfl rfl ?_
                  have e_420 := hx_29 _ (Option.some.inj ho_29).symm
                  subst e_420
                  replace hR := ybr_r hR
                  obtain rfl := Option.some.inj hR
                  exact ret 0 rfl g_43.1 g_43.2 dL_law_164
          · replace ho_29 := yf_f c_243 ho_29
            refine xr_iconst (n := 103) (v := 0) C dL_law_102 rfl rfl ?_
            have e_421 := hx_29 _ (Option.some.inj ho_29).symm
            subst e_421
            replace hR := ybr_r hR
            obtain rfl := Option.some.inj hR
            exact ret 0 rfl g_43.1 g_43.2 dL_law_103
    refine xr_icmp_ge (tgt := 43) (n := 39) C dL_law_36 rfl rfl (fun c_422 => ?_) (fun c_422 => ?_)
    · replace hE_41 := yf_t c_422 hE_41
      refine xr_iload_n (n := 44) (j := 0) C dL_law_43 rfl rfl ?_
      refine xr_bipush (n := 46) (v := 9) C dL_law_44 rfl rfl ?_
      obtain ⟨x_423, hx_423, hE_41⟩ := yf_b hE_41
      refine xr_callSp (n := 49) (As := [.int (x_35 + (43 * s_29.1)), .int 9]) (rest := [.int ((x_35 + (43 * s_29.1)) >>> ((2 : Int32) &&& 31)), .ref q_1]) C (kL_below l D cy (i1 := x_35 + (43 * s_29.1)) (i2 := 9) hx_423) mL_below u_748 u_749 1 [] [0] rfl (by decide +kernel) rfl rfl rfl rfl (Nat.le_of_ble_eq_true rfl) (Nat.le_of_ble_eq_true rfl) (Nat.le_of_ble_eq_true rfl) g_31.1 g_31.2 dL_law_46 rfl (fun _ _ hp => hp.2) (fun v_424 hp_426 => ?_)
      obtain ⟨rfl, -⟩ := hp_426
      refine xr_st (st' := [.int x_423, .int ((x_35 + (43 * s_29.1)) >>> ((2 : Int32) &&& 31)), .ref q_1]) rfl ?_
      refine xr_lv (lv' := [(0, .ref b), (1, .ref q_1), (2, .int s_29.1), (3, .int (x_35 + (43 * s_29.1)))]) [1, 2, 3, 0] rfl ?_
      have e_427 := Option.some.inj hE_41
      subst e_427
      exact J_41
    · replace hE_41 := yf_f c_422 hE_41
      refine xr_iconst (n := 40) (v := 0) C dL_law_39 rfl rfl ?_
      refine xr_goto (tgt := 49) C dL_law_40 rfl ?_
      refine xr_lv (lv' := [(0, .ref b), (1, .ref q_1), (2, .int s_29.1), (3, .int (x_35 + (43 * s_29.1)))]) [1, 2, 3, 0] rfl ?_
      have e_428 := Option.some.inj hE_41
      subst e_428
      exact J_41
