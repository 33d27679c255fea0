theorem u_84 : Cond.classLink RL 8 RX6 ∈ yU := yu_tables_1_1 28 (by decide +kernel) (by decide +kernel)
theorem u_85 : Cond.instantiable RX6 6 ∈ yU := yu_tables_1_1 29 (by decide +kernel) (by decide +kernel)
theorem u_86 : Cond.methodLink RL 86 yX6_init ∈ yU := yu_tables_1_1 30 (by decide +kernel) (by decide +kernel)
theorem u_87 : Cond.instanceMethod yX6_init ∈ yU := yu_tables_1_1 31 (by decide +kernel) (by decide +kernel)
theorem u_1188 : Cond.classLink RL 87 RX9 ∈ yU := yu_tables_1_5 172 (by decide +kernel) (by decide +kernel)
theorem u_1189 : Cond.instantiable RX9 17 ∈ yU := yu_tables_1_5 173 (by decide +kernel) (by decide +kernel)
theorem u_1190 : Cond.methodLink RL 89 yX9_init ∈ yU := yu_tables_1_5 174 (by decide +kernel) (by decide +kernel)
theorem u_1191 : Cond.instanceMethod yX9_init ∈ yU := yu_tables_1_5 175 (by decide +kernel) (by decide +kernel)
theorem u_550 : Cond.classLink RL 14 RX7 ∈ yU := yu_tables_1_3 14 (by decide +kernel) (by decide +kernel)
theorem u_551 : Cond.instantiable RX7 2 ∈ yU := yu_tables_1_3 15 (by decide +kernel) (by decide +kernel)
theorem u_553 : Cond.instanceMethod yX7_init ∈ yU := yu_tables_1_3 17 (by decide +kernel) (by decide +kernel)
theorem u_563 : Cond.methodLink RL 91 yL_shape ∈ yU := yu_tables_1_3 27 (by decide +kernel) (by decide +kernel)
theorem u_564 : Cond.static yL_shape ∈ yU := yu_tables_1_3 28 (by decide +kernel) (by decide +kernel)
theorem u_1294 : Cond.methodLink RL 96 yX9_shape ∈ yU := yu_tables_1_6 38 (by decide +kernel) (by decide +kernel)
theorem u_1295 : Cond.instanceMethod yX9_shape ∈ yU := yu_tables_1_6 39 (by decide +kernel) (by decide +kernel)
theorem u_1296 : Cond.selects RX9 yX9_shape yX9_shape ∈ yU := yu_tables_1_6 40 (by decide +kernel) (by decide +kernel)
theorem u_651 : Cond.methodLink RL 97 yL_left ∈ yU := yu_tables_1_3 115 (by decide +kernel) (by decide +kernel)
theorem u_652 : Cond.static yL_left ∈ yU := yu_tables_1_3 116 (by decide +kernel) (by decide +kernel)
theorem u_1315 : Cond.methodLink RL 99 yX9_left ∈ yU := yu_tables_1_6 59 (by decide +kernel) (by decide +kernel)
theorem u_1316 : Cond.instanceMethod yX9_left ∈ yU := yu_tables_1_6 60 (by decide +kernel) (by decide +kernel)
theorem u_1317 : Cond.selects RX9 yX9_left yX9_left ∈ yU := yu_tables_1_6 61 (by decide +kernel) (by decide +kernel)
theorem u_683 : Cond.methodLink RL 100 yL_top ∈ yU := yu_tables_1_3 147 (by decide +kernel) (by decide +kernel)
theorem u_684 : Cond.static yL_top ∈ yU := yu_tables_1_3 148 (by decide +kernel) (by decide +kernel)
theorem u_1319 : Cond.methodLink RL 102 yX9_top ∈ yU := yu_tables_1_6 63 (by decide +kernel) (by decide +kernel)
theorem u_1320 : Cond.instanceMethod yX9_top ∈ yU := yu_tables_1_6 64 (by decide +kernel) (by decide +kernel)
theorem u_1321 : Cond.selects RX9 yX9_top yX9_top ∈ yU := yu_tables_1_6 65 (by decide +kernel) (by decide +kernel)
theorem u_691 : Cond.methodLink RL 103 yL_kind ∈ yU := yu_tables_1_3 155 (by decide +kernel) (by decide +kernel)
theorem u_692 : Cond.static yL_kind ∈ yU := yu_tables_1_3 156 (by decide +kernel) (by decide +kernel)
theorem u_1323 : Cond.methodLink RL 106 yX9_kind ∈ yU := yu_tables_1_6 67 (by decide +kernel) (by decide +kernel)
theorem u_1324 : Cond.instanceMethod yX9_kind ∈ yU := yu_tables_1_6 68 (by decide +kernel) (by decide +kernel)
theorem u_1325 : Cond.selects RX9 yX9_kind yX9_kind ∈ yU := yu_tables_1_6 69 (by decide +kernel) (by decide +kernel)
theorem u_699 : Cond.methodLink RL 107 yL_checked ∈ yU := yu_tables_1_3 163 (by decide +kernel) (by decide +kernel)
theorem u_700 : Cond.static yL_checked ∈ yU := yu_tables_1_3 164 (by decide +kernel) (by decide +kernel)
theorem u_1327 : Cond.methodLink RL 110 yX9_checked ∈ yU := yu_tables_1_6 71 (by decide +kernel) (by decide +kernel)
theorem u_1328 : Cond.instanceMethod yX9_checked ∈ yU := yu_tables_1_6 72 (by decide +kernel) (by decide +kernel)
theorem u_1329 : Cond.selects RX9 yX9_checked yX9_checked ∈ yU := yu_tables_1_6 73 (by decide +kernel) (by decide +kernel)
theorem u_723 : Cond.methodLink RL 111 yL_broken ∈ yU := yu_tables_1_3 187 (by decide +kernel) (by decide +kernel)
theorem u_724 : Cond.static yL_broken ∈ yU := yu_tables_1_3 188 (by decide +kernel) (by decide +kernel)
theorem u_1331 : Cond.methodLink RL 114 yX9_broken ∈ yU := yu_tables_1_6 75 (by decide +kernel) (by decide +kernel)
theorem u_1332 : Cond.instanceMethod yX9_broken ∈ yU := yu_tables_1_6 76 (by decide +kernel) (by decide +kernel)
theorem u_1333 : Cond.selects RX9 yX9_broken yX9_broken ∈ yU := yu_tables_1_6 77 (by decide +kernel) (by decide +kernel)
theorem u_738 : Cond.methodLink RL 115 yL_test ∈ yU := yu_tables_1_3 202 (by decide +kernel) (by decide +kernel)
theorem u_739 : Cond.static yL_test ∈ yU := yu_tables_1_3 203 (by decide +kernel) (by decide +kernel)
theorem u_1342 : Cond.methodLink RL 118 yX9_test ∈ yU := yu_tables_1_6 86 (by decide +kernel) (by decide +kernel)
theorem u_1343 : Cond.instanceMethod yX9_test ∈ yU := yu_tables_1_6 87 (by decide +kernel) (by decide +kernel)
theorem u_1344 : Cond.selects RX9 yX9_test yX9_test ∈ yU := yu_tables_1_6 88 (by decide +kernel) (by decide +kernel)
theorem u_751 : Cond.methodLink RL 119 yL_start ∈ yU := yu_tables_1_3 215 (by decide +kernel) (by decide +kernel)
theorem u_752 : Cond.static yL_start ∈ yU := yu_tables_1_3 216 (by decide +kernel) (by decide +kernel)
theorem u_1351 : Cond.methodLink RL 121 yX9_start_ ∈ yU := yu_tables_1_6 95 (by decide +kernel) (by decide +kernel)
theorem u_1352 : Cond.instanceMethod yX9_start_ ∈ yU := yu_tables_1_6 96 (by decide +kernel) (by decide +kernel)
theorem u_1353 : Cond.selects RX9 yX9_start_ yX9_start_ ∈ yU := yu_tables_1_6 97 (by decide +kernel) (by decide +kernel)
theorem u_787 : Cond.methodLink RL 122 yL_beat ∈ yU := yu_tables_1_4 11 (by decide +kernel) (by decide +kernel)
theorem u_788 : Cond.static yL_beat ∈ yU := yu_tables_1_4 12 (by decide +kernel) (by decide +kernel)
theorem u_1434 : Cond.methodLink RL 124 yX9_beat ∈ yU := yu_tables_1_6 178 (by decide +kernel) (by decide +kernel)
theorem u_1435 : Cond.instanceMethod yX9_beat ∈ yU := yu_tables_1_6 179 (by decide +kernel) (by decide +kernel)
theorem u_1436 : Cond.selects RX9 yX9_beat yX9_beat ∈ yU := yu_tables_1_6 180 (by decide +kernel) (by decide +kernel)
theorem u_829 : Cond.methodLink RL 125 yL_bend ∈ yU := yu_tables_1_4 53 (by decide +kernel) (by decide +kernel)
theorem u_830 : Cond.static yL_bend ∈ yU := yu_tables_1_4 54 (by decide +kernel) (by decide +kernel)
theorem u_1484 : Cond.methodLink RL 127 yX9_bend ∈ yU := yu_tables_1_6 228 (by decide +kernel) (by decide +kernel)
theorem u_1485 : Cond.instanceMethod yX9_bend ∈ yU := yu_tables_1_6 229 (by decide +kernel) (by decide +kernel)
theorem u_1486 : Cond.selects RX9 yX9_bend yX9_bend ∈ yU := yu_tables_1_6 230 (by decide +kernel) (by decide +kernel)
theorem u_842 : Cond.methodLink RL 128 yL_check ∈ yU := yu_tables_1_4 66 (by decide +kernel) (by decide +kernel)
theorem u_843 : Cond.static yL_check ∈ yU := yu_tables_1_4 67 (by decide +kernel) (by decide +kernel)
theorem u_1492 : Cond.methodLink RL 130 yX9_check ∈ yU := yu_tables_1_6 236 (by decide +kernel) (by decide +kernel)
theorem u_1493 : Cond.instanceMethod yX9_check ∈ yU := yu_tables_1_6 237 (by decide +kernel) (by decide +kernel)
theorem u_1494 : Cond.selects RX9 yX9_check yX9_check ∈ yU := yu_tables_1_6 238 (by decide +kernel) (by decide +kernel)
theorem u_868 : Cond.methodLink RL 131 yL_mesh ∈ yU := yu_tables_1_4 92 (by decide +kernel) (by decide +kernel)
theorem u_869 : Cond.static yL_mesh ∈ yU := yu_tables_1_4 93 (by decide +kernel) (by decide +kernel)
theorem u_1508 : Cond.methodLink RL 133 yX9_mesh ∈ yU := yu_tables_1_7 12 (by decide +kernel) (by decide +kernel)
theorem u_1509 : Cond.instanceMethod yX9_mesh ∈ yU := yu_tables_1_7 13 (by decide +kernel) (by decide +kernel)
theorem u_1510 : Cond.selects RX9 yX9_mesh yX9_mesh ∈ yU := yu_tables_1_7 14 (by decide +kernel) (by decide +kernel)
theorem u_1290 : Cond.methodLink RL 134 yX9_thrown ∈ yU := yu_tables_1_6 34 (by decide +kernel) (by decide +kernel)
theorem u_1291 : Cond.instanceMethod yX9_thrown ∈ yU := yu_tables_1_6 35 (by decide +kernel) (by decide +kernel)
theorem u_1292 : Cond.selects RX9 yX9_thrown yX9_thrown ∈ yU := yu_tables_1_6 36 (by decide +kernel) (by decide +kernel)
theorem u_876 : Cond.methodLink RL 137 yL_ofCell ∈ yU := yu_tables_1_4 100 (by decide +kernel) (by decide +kernel)
theorem u_877 : Cond.static yL_ofCell ∈ yU := yu_tables_1_4 101 (by decide +kernel) (by decide +kernel)
theorem u_1516 : Cond.methodLink RL 139 yX9_ofCell ∈ yU := yu_tables_1_7 20 (by decide +kernel) (by decide +kernel)
theorem u_1517 : Cond.instanceMethod yX9_ofCell ∈ yU := yu_tables_1_7 21 (by decide +kernel) (by decide +kernel)
theorem u_1518 : Cond.selects RX9 yX9_ofCell yX9_ofCell ∈ yU := yu_tables_1_7 22 (by decide +kernel) (by decide +kernel)
theorem u_884 : Cond.methodLink RL 140 yL_result ∈ yU := yu_tables_1_4 108 (by decide +kernel) (by decide +kernel)
theorem u_885 : Cond.static yL_result ∈ yU := yu_tables_1_4 109 (by decide +kernel) (by decide +kernel)
theorem u_1531 : Cond.methodLink RL 143 yX9_result ∈ yU := yu_tables_1_7 35 (by decide +kernel) (by decide +kernel)
theorem u_1532 : Cond.instanceMethod yX9_result ∈ yU := yu_tables_1_7 36 (by decide +kernel) (by decide +kernel)
theorem u_1533 : Cond.selects RX9 yX9_result yX9_result ∈ yU := yu_tables_1_7 37 (by decide +kernel) (by decide +kernel)
theorem u_891 : Cond.methodLink RL 144 yL_plain ∈ yU := yu_tables_1_4 115 (by decide +kernel) (by decide +kernel)
theorem u_892 : Cond.static yL_plain ∈ yU := yu_tables_1_4 116 (by decide +kernel) (by decide +kernel)
theorem u_1535 : Cond.methodLink RL 146 yX9_plain ∈ yU := yu_tables_1_7 39 (by decide +kernel) (by decide +kernel)
theorem u_1536 : Cond.instanceMethod yX9_plain ∈ yU := yu_tables_1_7 40 (by decide +kernel) (by decide +kernel)
theorem u_1537 : Cond.selects RX9 yX9_plain yX9_plain ∈ yU := yu_tables_1_7 41 (by decide +kernel) (by decide +kernel)
theorem u_899 : Cond.methodLink RL 147 yL_row ∈ yU := yu_tables_1_4 123 (by decide +kernel) (by decide +kernel)
theorem u_900 : Cond.static yL_row ∈ yU := yu_tables_1_4 124 (by decide +kernel) (by decide +kernel)
theorem u_1547 : Cond.methodLink RL 149 yX9_row ∈ yU := yu_tables_1_7 51 (by decide +kernel) (by decide +kernel)
theorem u_1548 : Cond.instanceMethod yX9_row ∈ yU := yu_tables_1_7 52 (by decide +kernel) (by decide +kernel)
theorem u_1549 : Cond.selects RX9 yX9_row yX9_row ∈ yU := yu_tables_1_7 53 (by decide +kernel) (by decide +kernel)
theorem u_1172 : Cond.methodLink RL 150 yL_beats ∈ yU := yu_tables_1_5 156 (by decide +kernel) (by decide +kernel)
theorem u_1173 : Cond.static yL_beats ∈ yU := yu_tables_1_5 157 (by decide +kernel) (by decide +kernel)
theorem u_1556 : Cond.methodLink RL 152 yX9_beats ∈ yU := yu_tables_1_7 60 (by decide +kernel) (by decide +kernel)
theorem u_1557 : Cond.instanceMethod yX9_beats ∈ yU := yu_tables_1_7 61 (by decide +kernel) (by decide +kernel)
theorem u_1558 : Cond.selects RX9 yX9_beats yX9_beats ∈ yU := yu_tables_1_7 62 (by decide +kernel) (by decide +kernel)
theorem u_1180 : Cond.methodLink RL 153 yL_best ∈ yU := yu_tables_1_5 164 (by decide +kernel) (by decide +kernel)
theorem u_1181 : Cond.static yL_best ∈ yU := yu_tables_1_5 165 (by decide +kernel) (by decide +kernel)
theorem u_1560 : Cond.methodLink RL 155 yX9_best ∈ yU := yu_tables_1_7 64 (by decide +kernel) (by decide +kernel)
theorem u_1561 : Cond.instanceMethod yX9_best ∈ yU := yu_tables_1_7 65 (by decide +kernel) (by decide +kernel)
theorem u_1562 : Cond.selects RX9 yX9_best yX9_best ∈ yU := yu_tables_1_7 66 (by decide +kernel) (by decide +kernel)
theorem u_308 : Cond.methodLink RL 156 yX6_saved ∈ yU := yu_tables_1_2 12 (by decide +kernel) (by decide +kernel)
theorem u_309 : Cond.instanceMethod yX6_saved ∈ yU := yu_tables_1_2 13 (by decide +kernel) (by decide +kernel)
theorem u_310 : Cond.selects RX6 yX6_saved yX6_saved ∈ yU := yu_tables_1_2 14 (by decide +kernel) (by decide +kernel)
theorem u_1568 : Cond.methodLink RL 159 yX9_saved ∈ yU := yu_tables_1_7 72 (by decide +kernel) (by decide +kernel)
theorem u_1569 : Cond.instanceMethod yX9_saved ∈ yU := yu_tables_1_7 73 (by decide +kernel) (by decide +kernel)
theorem u_1570 : Cond.selects RX9 yX9_saved yX9_saved ∈ yU := yu_tables_1_7 74 (by decide +kernel) (by decide +kernel)
theorem u_391 : Cond.methodLink RL 160 yX6_isSound ∈ yU := yu_tables_1_2 95 (by decide +kernel) (by decide +kernel)
theorem u_392 : Cond.instanceMethod yX6_isSound ∈ yU := yu_tables_1_2 96 (by decide +kernel) (by decide +kernel)
theorem u_393 : Cond.selects RX6 yX6_isSound yX6_isSound ∈ yU := yu_tables_1_2 97 (by decide +kernel) (by decide +kernel)
theorem u_1576 : Cond.methodLink RL 164 yX9_isSound ∈ yU := yu_tables_1_7 80 (by decide +kernel) (by decide +kernel)
theorem u_1577 : Cond.instanceMethod yX9_isSound ∈ yU := yu_tables_1_7 81 (by decide +kernel) (by decide +kernel)
theorem u_1578 : Cond.selects RX9 yX9_isSound yX9_isSound ∈ yU := yu_tables_1_7 82 (by decide +kernel) (by decide +kernel)
theorem u_456 : Cond.methodLink RL 165 yX6_digest ∈ yU := yu_tables_1_2 160 (by decide +kernel) (by decide +kernel)
theorem u_457 : Cond.instanceMethod yX6_digest ∈ yU := yu_tables_1_2 161 (by decide +kernel) (by decide +kernel)
theorem u_458 : Cond.selects RX6 yX6_digest yX6_digest ∈ yU := yu_tables_1_2 162 (by decide +kernel) (by decide +kernel)
theorem u_1588 : Cond.methodLink RL 169 yX9_digest ∈ yU := yu_tables_1_7 92 (by decide +kernel) (by decide +kernel)
theorem u_1589 : Cond.instanceMethod yX9_digest ∈ yU := yu_tables_1_7 93 (by decide +kernel) (by decide +kernel)
theorem u_1590 : Cond.selects RX9 yX9_digest yX9_digest ∈ yU := yu_tables_1_7 94 (by decide +kernel) (by decide +kernel)
theorem dL_law_0 : decode cL_law 0 = .ok (.new 8, 3) := by decide +kernel
theorem dL_law_3 : decode cL_law 3 = .ok (.dup, 1) := by decide +kernel
theorem dL_law_4 : decode cL_law 4 = .ok (.invokespecial 86, 3) := by decide +kernel
theorem dL_law_7 : decode cL_law 7 = .ok (.astore_n 1, 1) := by decide +kernel
theorem dL_law_8 : decode cL_law 8 = .ok (.new 87, 3) := by decide +kernel
theorem dL_law_11 : decode cL_law 11 = .ok (.dup, 1) := by decide +kernel
theorem dL_law_12 : decode cL_law 12 = .ok (.invokespecial 89, 3) := by decide +kernel
theorem dL_law_15 : decode cL_law 15 = .ok (.astore_n 2, 1) := by decide +kernel
theorem dL_law_16 : decode cL_law 16 = .ok (.new 14, 3) := by decide +kernel
theorem dL_law_19 : decode cL_law 19 = .ok (.dup, 1) := by decide +kernel
theorem dL_law_20 : decode cL_law 20 = .ok (.invokespecial 90, 3) := by decide +kernel
theorem dL_law_23 : decode cL_law 23 = .ok (.astore_n 3, 1) := by decide +kernel
theorem dL_law_24 : decode cL_law 24 = .ok (.iconst 0, 1) := by decide +kernel
theorem dL_law_25 : decode cL_law 25 = .ok (.istore 4, 2) := by decide +kernel
theorem dL_law_27 : decode cL_law 27 = .ok (.iload 4, 2) := by decide +kernel
theorem dL_law_29 : decode cL_law 29 = .ok (.aload_n 0, 1) := by decide +kernel
theorem dL_law_30 : decode cL_law 30 = .ok (.arraylength, 1) := by decide +kernel
theorem dL_law_31 : decode cL_law 31 = .ok (.iconst 4, 1) := by decide +kernel
theorem dL_law_32 : decode cL_law 32 = .ok (.isub, 1) := by decide +kernel
theorem dL_law_33 : decode cL_law 33 = .ok (.if_icmp .gt 861, 3) := by decide +kernel
theorem dL_law_36 : decode cL_law 36 = .ok (.aload_n 0, 1) := by decide +kernel
theorem dL_law_37 : decode cL_law 37 = .ok (.iload 4, 2) := by decide +kernel
theorem dL_law_39 : decode cL_law 39 = .ok (.iaload, 1) := by decide +kernel
theorem dL_law_40 : decode cL_law 40 = .ok (.bipush 31, 2) := by decide +kernel
theorem dL_law_42 : decode cL_law 42 = .ok (.iand, 1) := by decide +kernel
theorem dL_law_43 : decode cL_law 43 = .ok (.tableswitch 845 0 20 #[97, 149, 201, 253, 281, 325, 393, 409, 425, 453, 505, 521, 578, 630, 670, 710, 738, 778, 806, 819, 832], 97) := by decide +kernel
theorem dL_law_140 : decode cL_law 140 = .ok (.aload_n 1, 1) := by decide +kernel
theorem dL_law_141 : decode cL_law 141 = .ok (.aload_n 0, 1) := by decide +kernel
theorem dL_law_142 : decode cL_law 142 = .ok (.iload 4, 2) := by decide +kernel
theorem dL_law_144 : decode cL_law 144 = .ok (.iconst 1, 1) := by decide +kernel
theorem dL_law_145 : decode cL_law 145 = .ok (.iadd, 1) := by decide +kernel
theorem dL_law_146 : decode cL_law 146 = .ok (.iaload, 1) := by decide +kernel
theorem dL_law_147 : decode cL_law 147 = .ok (.aload_n 0, 1) := by decide +kernel
theorem dL_law_148 : decode cL_law 148 = .ok (.iload 4, 2) := by decide +kernel
theorem dL_law_150 : decode cL_law 150 = .ok (.iconst 2, 1) := by decide +kernel
theorem dL_law_151 : decode cL_law 151 = .ok (.iadd, 1) := by decide +kernel
theorem dL_law_152 : decode cL_law 152 = .ok (.iaload, 1) := by decide +kernel
theorem dL_law_153 : decode cL_law 153 = .ok (.aload_n 0, 1) := by decide +kernel
theorem dL_law_154 : decode cL_law 154 = .ok (.iload 4, 2) := by decide +kernel
theorem dL_law_156 : decode cL_law 156 = .ok (.iconst 3, 1) := by decide +kernel
theorem dL_law_157 : decode cL_law 157 = .ok (.iadd, 1) := by decide +kernel
theorem dL_law_158 : decode cL_law 158 = .ok (.iaload, 1) := by decide +kernel
theorem dL_law_159 : decode cL_law 159 = .ok (.aload_n 3, 1) := by decide +kernel
theorem dL_law_160 : decode cL_law 160 = .ok (.invokestatic 91, 3) := by decide +kernel
theorem dL_law_163 : decode cL_law 163 = .ok (.istore 5, 2) := by decide +kernel
theorem dL_law_165 : decode cL_law 165 = .ok (.aload_n 2, 1) := by decide +kernel
theorem dL_law_166 : decode cL_law 166 = .ok (.aload_n 0, 1) := by decide +kernel
theorem dL_law_167 : decode cL_law 167 = .ok (.iload 4, 2) := by decide +kernel
theorem dL_law_169 : decode cL_law 169 = .ok (.iconst 1, 1) := by decide +kernel
theorem dL_law_170 : decode cL_law 170 = .ok (.iadd, 1) := by decide +kernel
theorem dL_law_171 : decode cL_law 171 = .ok (.iaload, 1) := by decide +kernel
theorem dL_law_172 : decode cL_law 172 = .ok (.aload_n 0, 1) := by decide +kernel
theorem dL_law_173 : decode cL_law 173 = .ok (.iload 4, 2) := by decide +kernel
theorem dL_law_175 : decode cL_law 175 = .ok (.iconst 2, 1) := by decide +kernel
theorem dL_law_176 : decode cL_law 176 = .ok (.iadd, 1) := by decide +kernel
theorem dL_law_177 : decode cL_law 177 = .ok (.iaload, 1) := by decide +kernel
theorem dL_law_178 : decode cL_law 178 = .ok (.aload_n 0, 1) := by decide +kernel
theorem dL_law_179 : decode cL_law 179 = .ok (.iload 4, 2) := by decide +kernel
theorem dL_law_181 : decode cL_law 181 = .ok (.iconst 3, 1) := by decide +kernel
theorem dL_law_182 : decode cL_law 182 = .ok (.iadd, 1) := by decide +kernel
theorem dL_law_183 : decode cL_law 183 = .ok (.iaload, 1) := by decide +kernel
theorem dL_law_184 : decode cL_law 184 = .ok (.invokevirtual 96, 3) := by decide +kernel
theorem dL_law_187 : decode cL_law 187 = .ok (.istore 6, 2) := by decide +kernel
theorem dL_law_189 : decode cL_law 189 = .ok (.goto 699, 3) := by decide +kernel
theorem dL_law_192 : decode cL_law 192 = .ok (.aload_n 1, 1) := by decide +kernel
theorem dL_law_193 : decode cL_law 193 = .ok (.aload_n 0, 1) := by decide +kernel
theorem dL_law_194 : decode cL_law 194 = .ok (.iload 4, 2) := by decide +kernel
theorem dL_law_196 : decode cL_law 196 = .ok (.iconst 1, 1) := by decide +kernel
theorem dL_law_197 : decode cL_law 197 = .ok (.iadd, 1) := by decide +kernel
theorem dL_law_198 : decode cL_law 198 = .ok (.iaload, 1) := by decide +kernel
theorem dL_law_199 : decode cL_law 199 = .ok (.aload_n 0, 1) := by decide +kernel
theorem dL_law_200 : decode cL_law 200 = .ok (.iload 4, 2) := by decide +kernel
theorem dL_law_202 : decode cL_law 202 = .ok (.iconst 2, 1) := by decide +kernel
theorem dL_law_203 : decode cL_law 203 = .ok (.iadd, 1) := by decide +kernel
theorem dL_law_204 : decode cL_law 204 = .ok (.iaload, 1) := by decide +kernel
theorem dL_law_205 : decode cL_law 205 = .ok (.aload_n 0, 1) := by decide +kernel
theorem dL_law_206 : decode cL_law 206 = .ok (.iload 4, 2) := by decide +kernel
theorem dL_law_208 : decode cL_law 208 = .ok (.iconst 3, 1) := by decide +kernel
theorem dL_law_209 : decode cL_law 209 = .ok (.iadd, 1) := by decide +kernel
theorem dL_law_210 : decode cL_law 210 = .ok (.iaload, 1) := by decide +kernel
theorem dL_law_211 : decode cL_law 211 = .ok (.aload_n 3, 1) := by decide +kernel
theorem dL_law_212 : decode cL_law 212 = .ok (.invokestatic 97, 3) := by decide +kernel
theorem dL_law_215 : decode cL_law 215 = .ok (.istore 5, 2) := by decide +kernel
theorem dL_law_217 : decode cL_law 217 = .ok (.aload_n 2, 1) := by decide +kernel
theorem dL_law_218 : decode cL_law 218 = .ok (.aload_n 0, 1) := by decide +kernel
theorem dL_law_219 : decode cL_law 219 = .ok (.iload 4, 2) := by decide +kernel
theorem dL_law_221 : decode cL_law 221 = .ok (.iconst 1, 1) := by decide +kernel
theorem dL_law_222 : decode cL_law 222 = .ok (.iadd, 1) := by decide +kernel
theorem dL_law_223 : decode cL_law 223 = .ok (.iaload, 1) := by decide +kernel
theorem dL_law_224 : decode cL_law 224 = .ok (.aload_n 0, 1) := by decide +kernel
theorem dL_law_225 : decode cL_law 225 = .ok (.iload 4, 2) := by decide +kernel
theorem dL_law_227 : decode cL_law 227 = .ok (.iconst 2, 1) := by decide +kernel
theorem dL_law_228 : decode cL_law 228 = .ok (.iadd, 1) := by decide +kernel
theorem dL_law_229 : decode cL_law 229 = .ok (.iaload, 1) := by decide +kernel
theorem dL_law_230 : decode cL_law 230 = .ok (.aload_n 0, 1) := by decide +kernel
theorem dL_law_231 : decode cL_law 231 = .ok (.iload 4, 2) := by decide +kernel
theorem dL_law_233 : decode cL_law 233 = .ok (.iconst 3, 1) := by decide +kernel
theorem dL_law_234 : decode cL_law 234 = .ok (.iadd, 1) := by decide +kernel
theorem dL_law_235 : decode cL_law 235 = .ok (.iaload, 1) := by decide +kernel
theorem dL_law_236 : decode cL_law 236 = .ok (.invokevirtual 99, 3) := by decide +kernel
theorem dL_law_239 : decode cL_law 239 = .ok (.istore 6, 2) := by decide +kernel
theorem dL_law_241 : decode cL_law 241 = .ok (.goto 647, 3) := by decide +kernel
theorem dL_law_244 : decode cL_law 244 = .ok (.aload_n 1, 1) := by decide +kernel
theorem dL_law_245 : decode cL_law 245 = .ok (.aload_n 0, 1) := by decide +kernel
theorem dL_law_246 : decode cL_law 246 = .ok (.iload 4, 2) := by decide +kernel
theorem dL_law_248 : decode cL_law 248 = .ok (.iconst 1, 1) := by decide +kernel
theorem dL_law_249 : decode cL_law 249 = .ok (.iadd, 1) := by decide +kernel
theorem dL_law_250 : decode cL_law 250 = .ok (.iaload, 1) := by decide +kernel
theorem dL_law_251 : decode cL_law 251 = .ok (.aload_n 0, 1) := by decide +kernel
theorem dL_law_252 : decode cL_law 252 = .ok (.iload 4, 2) := by decide +kernel
theorem dL_law_254 : decode cL_law 254 = .ok (.iconst 2, 1) := by decide +kernel
theorem dL_law_255 : decode cL_law 255 = .ok (.iadd, 1) := by decide +kernel
theorem dL_law_256 : decode cL_law 256 = .ok (.iaload, 1) := by decide +kernel
theorem dL_law_257 : decode cL_law 257 = .ok (.aload_n 0, 1) := by decide +kernel
theorem dL_law_258 : decode cL_law 258 = .ok (.iload 4, 2) := by decide +kernel
theorem dL_law_260 : decode cL_law 260 = .ok (.iconst 3, 1) := by decide +kernel
theorem dL_law_261 : decode cL_law 261 = .ok (.iadd, 1) := by decide +kernel
theorem dL_law_262 : decode cL_law 262 = .ok (.iaload, 1) := by decide +kernel
theorem dL_law_263 : decode cL_law 263 = .ok (.aload_n 3, 1) := by decide +kernel
theorem dL_law_264 : decode cL_law 264 = .ok (.invokestatic 100, 3) := by decide +kernel
theorem dL_law_267 : decode cL_law 267 = .ok (.istore 5, 2) := by decide +kernel
theorem dL_law_269 : decode cL_law 269 = .ok (.aload_n 2, 1) := by decide +kernel
theorem dL_law_270 : decode cL_law 270 = .ok (.aload_n 0, 1) := by decide +kernel
theorem dL_law_271 : decode cL_law 271 = .ok (.iload 4, 2) := by decide +kernel
theorem dL_law_273 : decode cL_law 273 = .ok (.iconst 1, 1) := by decide +kernel
theorem dL_law_274 : decode cL_law 274 = .ok (.iadd, 1) := by decide +kernel
theorem dL_law_275 : decode cL_law 275 = .ok (.iaload, 1) := by decide +kernel
theorem dL_law_276 : decode cL_law 276 = .ok (.aload_n 0, 1) := by decide +kernel
theorem dL_law_277 : decode cL_law 277 = .ok (.iload 4, 2) := by decide +kernel
theorem dL_law_279 : decode cL_law 279 = .ok (.iconst 2, 1) := by decide +kernel
theorem dL_law_280 : decode cL_law 280 = .ok (.iadd, 1) := by decide +kernel
theorem dL_law_281 : decode cL_law 281 = .ok (.iaload, 1) := by decide +kernel
theorem dL_law_282 : decode cL_law 282 = .ok (.aload_n 0, 1) := by decide +kernel
theorem dL_law_283 : decode cL_law 283 = .ok (.iload 4, 2) := by decide +kernel
theorem dL_law_285 : decode cL_law 285 = .ok (.iconst 3, 1) := by decide +kernel
theorem dL_law_286 : decode cL_law 286 = .ok (.iadd, 1) := by decide +kernel
theorem dL_law_287 : decode cL_law 287 = .ok (.iaload, 1) := by decide +kernel
theorem dL_law_288 : decode cL_law 288 = .ok (.invokevirtual 102, 3) := by decide +kernel
theorem dL_law_291 : decode cL_law 291 = .ok (.istore 6, 2) := by decide +kernel
theorem dL_law_293 : decode cL_law 293 = .ok (.goto 595, 3) := by decide +kernel
theorem dL_law_296 : decode cL_law 296 = .ok (.aload_n 1, 1) := by decide +kernel
theorem dL_law_297 : decode cL_law 297 = .ok (.aload_n 0, 1) := by decide +kernel
theorem dL_law_298 : decode cL_law 298 = .ok (.iload 4, 2) := by decide +kernel
theorem dL_law_300 : decode cL_law 300 = .ok (.iconst 1, 1) := by decide +kernel
theorem dL_law_301 : decode cL_law 301 = .ok (.iadd, 1) := by decide +kernel
theorem dL_law_302 : decode cL_law 302 = .ok (.iaload, 1) := by decide +kernel
theorem dL_law_303 : decode cL_law 303 = .ok (.aload_n 3, 1) := by decide +kernel
theorem dL_law_304 : decode cL_law 304 = .ok (.invokestatic 103, 3) := by decide +kernel
theorem dL_law_307 : decode cL_law 307 = .ok (.istore 5, 2) := by decide +kernel
theorem dL_law_309 : decode cL_law 309 = .ok (.aload_n 2, 1) := by decide +kernel
theorem dL_law_310 : decode cL_law 310 = .ok (.aload_n 0, 1) := by decide +kernel
theorem dL_law_311 : decode cL_law 311 = .ok (.iload 4, 2) := by decide +kernel
theorem dL_law_313 : decode cL_law 313 = .ok (.iconst 1, 1) := by decide +kernel
theorem dL_law_314 : decode cL_law 314 = .ok (.iadd, 1) := by decide +kernel
theorem dL_law_315 : decode cL_law 315 = .ok (.iaload, 1) := by decide +kernel
theorem dL_law_316 : decode cL_law 316 = .ok (.invokevirtual 106, 3) := by decide +kernel
theorem dL_law_319 : decode cL_law 319 = .ok (.istore 6, 2) := by decide +kernel
theorem dL_law_321 : decode cL_law 321 = .ok (.goto 567, 3) := by decide +kernel
theorem dL_law_324 : decode cL_law 324 = .ok (.aload_n 1, 1) := by decide +kernel
theorem dL_law_325 : decode cL_law 325 = .ok (.aload_n 0, 1) := by decide +kernel
theorem dL_law_326 : decode cL_law 326 = .ok (.iload 4, 2) := by decide +kernel
theorem dL_law_328 : decode cL_law 328 = .ok (.iconst 1, 1) := by decide +kernel
theorem dL_law_329 : decode cL_law 329 = .ok (.iadd, 1) := by decide +kernel
theorem dL_law_330 : decode cL_law 330 = .ok (.iaload, 1) := by decide +kernel
theorem dL_law_331 : decode cL_law 331 = .ok (.ifCond .eq 7, 3) := by decide +kernel
theorem dL_law_334 : decode cL_law 334 = .ok (.iconst 1, 1) := by decide +kernel
theorem dL_law_335 : decode cL_law 335 = .ok (.goto 4, 3) := by decide +kernel
theorem dL_law_338 : decode cL_law 338 = .ok (.iconst 0, 1) := by decide +kernel
theorem dL_law_339 : decode cL_law 339 = .ok (.aload_n 3, 1) := by decide +kernel
theorem dL_law_340 : decode cL_law 340 = .ok (.invokestatic 107, 3) := by decide +kernel
theorem dL_law_343 : decode cL_law 343 = .ok (.istore 5, 2) := by decide +kernel
theorem dL_law_345 : decode cL_law 345 = .ok (.aload_n 2, 1) := by decide +kernel
theorem dL_law_346 : decode cL_law 346 = .ok (.aload_n 0, 1) := by decide +kernel
theorem dL_law_347 : decode cL_law 347 = .ok (.iload 4, 2) := by decide +kernel
theorem dL_law_349 : decode cL_law 349 = .ok (.iconst 1, 1) := by decide +kernel
theorem dL_law_350 : decode cL_law 350 = .ok (.iadd, 1) := by decide +kernel
theorem dL_law_351 : decode cL_law 351 = .ok (.iaload, 1) := by decide +kernel
theorem dL_law_352 : decode cL_law 352 = .ok (.ifCond .eq 7, 3) := by decide +kernel
theorem dL_law_355 : decode cL_law 355 = .ok (.iconst 1, 1) := by decide +kernel
theorem dL_law_356 : decode cL_law 356 = .ok (.goto 4, 3) := by decide +kernel
theorem dL_law_359 : decode cL_law 359 = .ok (.iconst 0, 1) := by decide +kernel
theorem dL_law_360 : decode cL_law 360 = .ok (.invokevirtual 110, 3) := by decide +kernel
theorem dL_law_363 : decode cL_law 363 = .ok (.istore 6, 2) := by decide +kernel
theorem dL_law_365 : decode cL_law 365 = .ok (.goto 523, 3) := by decide +kernel
theorem dL_law_368 : decode cL_law 368 = .ok (.aload_n 1, 1) := by decide +kernel
theorem dL_law_369 : decode cL_law 369 = .ok (.aload_n 0, 1) := by decide +kernel
theorem dL_law_370 : decode cL_law 370 = .ok (.iload 4, 2) := by decide +kernel
theorem dL_law_372 : decode cL_law 372 = .ok (.iconst 1, 1) := by decide +kernel
theorem dL_law_373 : decode cL_law 373 = .ok (.iadd, 1) := by decide +kernel
theorem dL_law_374 : decode cL_law 374 = .ok (.iaload, 1) := by decide +kernel
theorem dL_law_375 : decode cL_law 375 = .ok (.aload_n 0, 1) := by decide +kernel
theorem dL_law_376 : decode cL_law 376 = .ok (.iload 4, 2) := by decide +kernel
theorem dL_law_378 : decode cL_law 378 = .ok (.iconst 2, 1) := by decide +kernel
theorem dL_law_379 : decode cL_law 379 = .ok (.iadd, 1) := by decide +kernel
theorem dL_law_380 : decode cL_law 380 = .ok (.iaload, 1) := by decide +kernel
theorem dL_law_381 : decode cL_law 381 = .ok (.aload_n 0, 1) := by decide +kernel
theorem dL_law_382 : decode cL_law 382 = .ok (.iload 4, 2) := by decide +kernel
theorem dL_law_384 : decode cL_law 384 = .ok (.iconst 3, 1) := by decide +kernel
theorem dL_law_385 : decode cL_law 385 = .ok (.iadd, 1) := by decide +kernel
theorem dL_law_386 : decode cL_law 386 = .ok (.iaload, 1) := by decide +kernel
theorem dL_law_387 : decode cL_law 387 = .ok (.ifCond .eq 7, 3) := by decide +kernel
theorem dL_law_390 : decode cL_law 390 = .ok (.iconst 1, 1) := by decide +kernel
theorem dL_law_391 : decode cL_law 391 = .ok (.goto 4, 3) := by decide +kernel
theorem dL_law_394 : decode cL_law 394 = .ok (.iconst 0, 1) := by decide +kernel
theorem dL_law_395 : decode cL_law 395 = .ok (.aload_n 3, 1) := by decide +kernel
theorem dL_law_396 : decode cL_law 396 = .ok (.invokestatic 111, 3) := by decide +kernel
theorem dL_law_399 : decode cL_law 399 = .ok (.istore 5, 2) := by decide +kernel
theorem dL_law_401 : decode cL_law 401 = .ok (.aload_n 2, 1) := by decide +kernel
theorem dL_law_402 : decode cL_law 402 = .ok (.aload_n 0, 1) := by decide +kernel
theorem dL_law_403 : decode cL_law 403 = .ok (.iload 4, 2) := by decide +kernel
theorem dL_law_405 : decode cL_law 405 = .ok (.iconst 1, 1) := by decide +kernel
theorem dL_law_406 : decode cL_law 406 = .ok (.iadd, 1) := by decide +kernel
theorem dL_law_407 : decode cL_law 407 = .ok (.iaload, 1) := by decide +kernel
theorem dL_law_408 : decode cL_law 408 = .ok (.aload_n 0, 1) := by decide +kernel
theorem dL_law_409 : decode cL_law 409 = .ok (.iload 4, 2) := by decide +kernel
theorem dL_law_411 : decode cL_law 411 = .ok (.iconst 2, 1) := by decide +kernel
theorem dL_law_412 : decode cL_law 412 = .ok (.iadd, 1) := by decide +kernel
theorem dL_law_413 : decode cL_law 413 = .ok (.iaload, 1) := by decide +kernel
theorem dL_law_414 : decode cL_law 414 = .ok (.aload_n 0, 1) := by decide +kernel
theorem dL_law_415 : decode cL_law 415 = .ok (.iload 4, 2) := by decide +kernel
theorem dL_law_417 : decode cL_law 417 = .ok (.iconst 3, 1) := by decide +kernel
theorem dL_law_418 : decode cL_law 418 = .ok (.iadd, 1) := by decide +kernel
theorem dL_law_419 : decode cL_law 419 = .ok (.iaload, 1) := by decide +kernel
theorem dL_law_420 : decode cL_law 420 = .ok (.ifCond .eq 7, 3) := by decide +kernel
theorem dL_law_423 : decode cL_law 423 = .ok (.iconst 1, 1) := by decide +kernel
theorem dL_law_424 : decode cL_law 424 = .ok (.goto 4, 3) := by decide +kernel
theorem dL_law_427 : decode cL_law 427 = .ok (.iconst 0, 1) := by decide +kernel
theorem dL_law_428 : decode cL_law 428 = .ok (.invokevirtual 114, 3) := by decide +kernel
theorem dL_law_431 : decode cL_law 431 = .ok (.istore 6, 2) := by decide +kernel
theorem dL_law_433 : decode cL_law 433 = .ok (.goto 455, 3) := by decide +kernel
theorem dL_law_436 : decode cL_law 436 = .ok (.aload_n 1, 1) := by decide +kernel
theorem dL_law_437 : decode cL_law 437 = .ok (.aload_n 3, 1) := by decide +kernel
theorem dL_law_438 : decode cL_law 438 = .ok (.invokestatic 115, 3) := by decide +kernel
theorem dL_law_441 : decode cL_law 441 = .ok (.istore 5, 2) := by decide +kernel
theorem dL_law_443 : decode cL_law 443 = .ok (.aload_n 2, 1) := by decide +kernel
theorem dL_law_444 : decode cL_law 444 = .ok (.invokevirtual 118, 3) := by decide +kernel
theorem dL_law_447 : decode cL_law 447 = .ok (.istore 6, 2) := by decide +kernel
theorem dL_law_449 : decode cL_law 449 = .ok (.goto 439, 3) := by decide +kernel
theorem dL_law_452 : decode cL_law 452 = .ok (.aload_n 1, 1) := by decide +kernel
theorem dL_law_453 : decode cL_law 453 = .ok (.aload_n 3, 1) := by decide +kernel
theorem dL_law_454 : decode cL_law 454 = .ok (.invokestatic 119, 3) := by decide +kernel
theorem dL_law_457 : decode cL_law 457 = .ok (.istore 5, 2) := by decide +kernel
theorem dL_law_459 : decode cL_law 459 = .ok (.aload_n 2, 1) := by decide +kernel
theorem dL_law_460 : decode cL_law 460 = .ok (.invokevirtual 121, 3) := by decide +kernel
theorem dL_law_463 : decode cL_law 463 = .ok (.istore 6, 2) := by decide +kernel
theorem dL_law_465 : decode cL_law 465 = .ok (.goto 423, 3) := by decide +kernel
theorem dL_law_468 : decode cL_law 468 = .ok (.aload_n 1, 1) := by decide +kernel
theorem dL_law_469 : decode cL_law 469 = .ok (.aload_n 0, 1) := by decide +kernel
theorem dL_law_470 : decode cL_law 470 = .ok (.iload 4, 2) := by decide +kernel
theorem dL_law_472 : decode cL_law 472 = .ok (.iconst 1, 1) := by decide +kernel
theorem dL_law_473 : decode cL_law 473 = .ok (.iadd, 1) := by decide +kernel
theorem dL_law_474 : decode cL_law 474 = .ok (.iaload, 1) := by decide +kernel
theorem dL_law_475 : decode cL_law 475 = .ok (.aload_n 3, 1) := by decide +kernel
theorem dL_law_476 : decode cL_law 476 = .ok (.invokestatic 122, 3) := by decide +kernel
theorem dL_law_479 : decode cL_law 479 = .ok (.istore 5, 2) := by decide +kernel
theorem dL_law_481 : decode cL_law 481 = .ok (.aload_n 2, 1) := by decide +kernel
theorem dL_law_482 : decode cL_law 482 = .ok (.aload_n 0, 1) := by decide +kernel
theorem dL_law_483 : decode cL_law 483 = .ok (.iload 4, 2) := by decide +kernel
theorem dL_law_485 : decode cL_law 485 = .ok (.iconst 1, 1) := by decide +kernel
theorem dL_law_486 : decode cL_law 486 = .ok (.iadd, 1) := by decide +kernel
theorem dL_law_487 : decode cL_law 487 = .ok (.iaload, 1) := by decide +kernel
theorem dL_law_488 : decode cL_law 488 = .ok (.invokevirtual 124, 3) := by decide +kernel
theorem dL_law_491 : decode cL_law 491 = .ok (.istore 6, 2) := by decide +kernel
theorem dL_law_493 : decode cL_law 493 = .ok (.goto 395, 3) := by decide +kernel
theorem dL_law_496 : decode cL_law 496 = .ok (.aload_n 1, 1) := by decide +kernel
theorem dL_law_497 : decode cL_law 497 = .ok (.aload_n 0, 1) := by decide +kernel
theorem dL_law_498 : decode cL_law 498 = .ok (.iload 4, 2) := by decide +kernel
theorem dL_law_500 : decode cL_law 500 = .ok (.iconst 1, 1) := by decide +kernel
theorem dL_law_501 : decode cL_law 501 = .ok (.iadd, 1) := by decide +kernel
theorem dL_law_502 : decode cL_law 502 = .ok (.iaload, 1) := by decide +kernel
theorem dL_law_503 : decode cL_law 503 = .ok (.aload_n 0, 1) := by decide +kernel
theorem dL_law_504 : decode cL_law 504 = .ok (.iload 4, 2) := by decide +kernel
theorem dL_law_506 : decode cL_law 506 = .ok (.iconst 2, 1) := by decide +kernel
theorem dL_law_507 : decode cL_law 507 = .ok (.iadd, 1) := by decide +kernel
theorem dL_law_508 : decode cL_law 508 = .ok (.iaload, 1) := by decide +kernel
theorem dL_law_509 : decode cL_law 509 = .ok (.aload_n 0, 1) := by decide +kernel
theorem dL_law_510 : decode cL_law 510 = .ok (.iload 4, 2) := by decide +kernel
theorem dL_law_512 : decode cL_law 512 = .ok (.iconst 3, 1) := by decide +kernel
theorem dL_law_513 : decode cL_law 513 = .ok (.iadd, 1) := by decide +kernel
theorem dL_law_514 : decode cL_law 514 = .ok (.iaload, 1) := by decide +kernel
theorem dL_law_515 : decode cL_law 515 = .ok (.aload_n 3, 1) := by decide +kernel
theorem dL_law_516 : decode cL_law 516 = .ok (.invokestatic 125, 3) := by decide +kernel
theorem dL_law_519 : decode cL_law 519 = .ok (.istore 5, 2) := by decide +kernel
theorem dL_law_521 : decode cL_law 521 = .ok (.aload_n 2, 1) := by decide +kernel
theorem dL_law_522 : decode cL_law 522 = .ok (.aload_n 0, 1) := by decide +kernel
theorem dL_law_523 : decode cL_law 523 = .ok (.iload 4, 2) := by decide +kernel
theorem dL_law_525 : decode cL_law 525 = .ok (.iconst 1, 1) := by decide +kernel
theorem dL_law_526 : decode cL_law 526 = .ok (.iadd, 1) := by decide +kernel
theorem dL_law_527 : decode cL_law 527 = .ok (.iaload, 1) := by decide +kernel
theorem dL_law_528 : decode cL_law 528 = .ok (.aload_n 0, 1) := by decide +kernel
theorem dL_law_529 : decode cL_law 529 = .ok (.iload 4, 2) := by decide +kernel
theorem dL_law_531 : decode cL_law 531 = .ok (.iconst 2, 1) := by decide +kernel
theorem dL_law_532 : decode cL_law 532 = .ok (.iadd, 1) := by decide +kernel
theorem dL_law_533 : decode cL_law 533 = .ok (.iaload, 1) := by decide +kernel
theorem dL_law_534 : decode cL_law 534 = .ok (.aload_n 0, 1) := by decide +kernel
theorem dL_law_535 : decode cL_law 535 = .ok (.iload 4, 2) := by decide +kernel
theorem dL_law_537 : decode cL_law 537 = .ok (.iconst 3, 1) := by decide +kernel
theorem dL_law_538 : decode cL_law 538 = .ok (.iadd, 1) := by decide +kernel
theorem dL_law_539 : decode cL_law 539 = .ok (.iaload, 1) := by decide +kernel
theorem dL_law_540 : decode cL_law 540 = .ok (.invokevirtual 127, 3) := by decide +kernel
theorem dL_law_543 : decode cL_law 543 = .ok (.istore 6, 2) := by decide +kernel
theorem dL_law_545 : decode cL_law 545 = .ok (.goto 343, 3) := by decide +kernel
theorem dL_law_548 : decode cL_law 548 = .ok (.aload_n 1, 1) := by decide +kernel
theorem dL_law_549 : decode cL_law 549 = .ok (.aload_n 3, 1) := by decide +kernel
theorem dL_law_550 : decode cL_law 550 = .ok (.invokestatic 128, 3) := by decide +kernel
theorem dL_law_553 : decode cL_law 553 = .ok (.istore 5, 2) := by decide +kernel
theorem dL_law_555 : decode cL_law 555 = .ok (.aload_n 2, 1) := by decide +kernel
theorem dL_law_556 : decode cL_law 556 = .ok (.invokevirtual 130, 3) := by decide +kernel
theorem dL_law_559 : decode cL_law 559 = .ok (.istore 6, 2) := by decide +kernel
theorem dL_law_561 : decode cL_law 561 = .ok (.goto 327, 3) := by decide +kernel
theorem dL_law_564 : decode cL_law 564 = .ok (.aload_n 1, 1) := by decide +kernel
theorem dL_law_565 : decode cL_law 565 = .ok (.aload_n 0, 1) := by decide +kernel
theorem dL_law_566 : decode cL_law 566 = .ok (.iload 4, 2) := by decide +kernel
theorem dL_law_568 : decode cL_law 568 = .ok (.iconst 1, 1) := by decide +kernel
theorem dL_law_569 : decode cL_law 569 = .ok (.iadd, 1) := by decide +kernel
theorem dL_law_570 : decode cL_law 570 = .ok (.iaload, 1) := by decide +kernel
theorem dL_law_571 : decode cL_law 571 = .ok (.aload_n 3, 1) := by decide +kernel
theorem dL_law_572 : decode cL_law 572 = .ok (.invokestatic 131, 3) := by decide +kernel
theorem dL_law_575 : decode cL_law 575 = .ok (.istore 5, 2) := by decide +kernel
theorem dL_law_577 : decode cL_law 577 = .ok (.aload_n 2, 1) := by decide +kernel
theorem dL_law_578 : decode cL_law 578 = .ok (.aload_n 0, 1) := by decide +kernel
theorem dL_law_579 : decode cL_law 579 = .ok (.iload 4, 2) := by decide +kernel
theorem dL_law_581 : decode cL_law 581 = .ok (.iconst 1, 1) := by decide +kernel
theorem dL_law_582 : decode cL_law 582 = .ok (.iadd, 1) := by decide +kernel
theorem dL_law_583 : decode cL_law 583 = .ok (.iaload, 1) := by decide +kernel
theorem dL_law_584 : decode cL_law 584 = .ok (.invokevirtual 133, 3) := by decide +kernel
theorem dL_law_587 : decode cL_law 587 = .ok (.istore 6, 2) := by decide +kernel
theorem dL_law_589 : decode cL_law 589 = .ok (.aload_n 2, 1) := by decide +kernel
theorem dL_law_590 : decode cL_law 590 = .ok (.invokevirtual 134, 3) := by decide +kernel
theorem dL_law_593 : decode cL_law 593 = .ok (.iload 5, 2) := by decide +kernel
theorem dL_law_595 : decode cL_law 595 = .ok (.if_icmp .eq 5, 3) := by decide +kernel
theorem dL_law_598 : decode cL_law 598 = .ok (.iconst 0, 1) := by decide +kernel
theorem dL_law_599 : decode cL_law 599 = .ok (.ireturn, 1) := by decide +kernel
theorem dL_law_600 : decode cL_law 600 = .ok (.iload 5, 2) := by decide +kernel
theorem dL_law_602 : decode cL_law 602 = .ok (.ifCond .ne 16, 3) := by decide +kernel
theorem dL_law_605 : decode cL_law 605 = .ok (.aload_n 3, 1) := by decide +kernel
theorem dL_law_606 : decode cL_law 606 = .ok (.getfield 13, 3) := by decide +kernel
theorem dL_law_609 : decode cL_law 609 = .ok (.iload 6, 2) := by decide +kernel
theorem dL_law_611 : decode cL_law 611 = .ok (.i2l, 1) := by decide +kernel
theorem dL_law_612 : decode cL_law 612 = .ok (.lcmp, 1) := by decide +kernel
theorem dL_law_613 : decode cL_law 613 = .ok (.ifCond .eq 5, 3) := by decide +kernel
theorem dL_law_616 : decode cL_law 616 = .ok (.iconst 0, 1) := by decide +kernel
theorem dL_law_617 : decode cL_law 617 = .ok (.ireturn, 1) := by decide +kernel
theorem dL_law_618 : decode cL_law 618 = .ok (.goto 270, 3) := by decide +kernel
theorem dL_law_621 : decode cL_law 621 = .ok (.aload_n 1, 1) := by decide +kernel
theorem dL_law_622 : decode cL_law 622 = .ok (.aload_n 0, 1) := by decide +kernel
theorem dL_law_623 : decode cL_law 623 = .ok (.iload 4, 2) := by decide +kernel
theorem dL_law_625 : decode cL_law 625 = .ok (.iconst 1, 1) := by decide +kernel
theorem dL_law_626 : decode cL_law 626 = .ok (.iadd, 1) := by decide +kernel
theorem dL_law_627 : decode cL_law 627 = .ok (.iaload, 1) := by decide +kernel
theorem dL_law_628 : decode cL_law 628 = .ok (.aload_n 0, 1) := by decide +kernel
theorem dL_law_629 : decode cL_law 629 = .ok (.iload 4, 2) := by decide +kernel
theorem dL_law_631 : decode cL_law 631 = .ok (.iconst 2, 1) := by decide +kernel
theorem dL_law_632 : decode cL_law 632 = .ok (.iadd, 1) := by decide +kernel
theorem dL_law_633 : decode cL_law 633 = .ok (.iaload, 1) := by decide +kernel
theorem dL_law_634 : decode cL_law 634 = .ok (.aload_n 0, 1) := by decide +kernel
theorem dL_law_635 : decode cL_law 635 = .ok (.iload 4, 2) := by decide +kernel
theorem dL_law_637 : decode cL_law 637 = .ok (.iconst 3, 1) := by decide +kernel
theorem dL_law_638 : decode cL_law 638 = .ok (.iadd, 1) := by decide +kernel
theorem dL_law_639 : decode cL_law 639 = .ok (.iaload, 1) := by decide +kernel
theorem dL_law_640 : decode cL_law 640 = .ok (.aload_n 3, 1) := by decide +kernel
theorem dL_law_641 : decode cL_law 641 = .ok (.invokestatic 137, 3) := by decide +kernel
theorem dL_law_644 : decode cL_law 644 = .ok (.istore 5, 2) := by decide +kernel
theorem dL_law_646 : decode cL_law 646 = .ok (.aload_n 2, 1) := by decide +kernel
theorem dL_law_647 : decode cL_law 647 = .ok (.aload_n 0, 1) := by decide +kernel
theorem dL_law_648 : decode cL_law 648 = .ok (.iload 4, 2) := by decide +kernel
theorem dL_law_650 : decode cL_law 650 = .ok (.iconst 1, 1) := by decide +kernel
theorem dL_law_651 : decode cL_law 651 = .ok (.iadd, 1) := by decide +kernel
theorem dL_law_652 : decode cL_law 652 = .ok (.iaload, 1) := by decide +kernel
theorem dL_law_653 : decode cL_law 653 = .ok (.aload_n 0, 1) := by decide +kernel
theorem dL_law_654 : decode cL_law 654 = .ok (.iload 4, 2) := by decide +kernel
theorem dL_law_656 : decode cL_law 656 = .ok (.iconst 2, 1) := by decide +kernel
theorem dL_law_657 : decode cL_law 657 = .ok (.iadd, 1) := by decide +kernel
theorem dL_law_658 : decode cL_law 658 = .ok (.iaload, 1) := by decide +kernel
theorem dL_law_659 : decode cL_law 659 = .ok (.aload_n 0, 1) := by decide +kernel
theorem dL_law_660 : decode cL_law 660 = .ok (.iload 4, 2) := by decide +kernel
theorem dL_law_662 : decode cL_law 662 = .ok (.iconst 3, 1) := by decide +kernel
theorem dL_law_663 : decode cL_law 663 = .ok (.iadd, 1) := by decide +kernel
theorem dL_law_664 : decode cL_law 664 = .ok (.iaload, 1) := by decide +kernel
theorem dL_law_665 : decode cL_law 665 = .ok (.invokevirtual 139, 3) := by decide +kernel
theorem dL_law_668 : decode cL_law 668 = .ok (.istore 6, 2) := by decide +kernel
theorem dL_law_670 : decode cL_law 670 = .ok (.goto 218, 3) := by decide +kernel
theorem dL_law_673 : decode cL_law 673 = .ok (.aload_n 1, 1) := by decide +kernel
theorem dL_law_674 : decode cL_law 674 = .ok (.aload_n 0, 1) := by decide +kernel
theorem dL_law_675 : decode cL_law 675 = .ok (.iload 4, 2) := by decide +kernel
theorem dL_law_677 : decode cL_law 677 = .ok (.iconst 1, 1) := by decide +kernel
theorem dL_law_678 : decode cL_law 678 = .ok (.iadd, 1) := by decide +kernel
theorem dL_law_679 : decode cL_law 679 = .ok (.iaload, 1) := by decide +kernel
theorem dL_law_680 : decode cL_law 680 = .ok (.aload_n 0, 1) := by decide +kernel
theorem dL_law_681 : decode cL_law 681 = .ok (.iload 4, 2) := by decide +kernel
theorem dL_law_683 : decode cL_law 683 = .ok (.iconst 2, 1) := by decide +kernel
theorem dL_law_684 : decode cL_law 684 = .ok (.iadd, 1) := by decide +kernel
theorem dL_law_685 : decode cL_law 685 = .ok (.iaload, 1) := by decide +kernel
theorem dL_law_686 : decode cL_law 686 = .ok (.aload_n 3, 1) := by decide +kernel
theorem dL_law_687 : decode cL_law 687 = .ok (.invokestatic 140, 3) := by decide +kernel
theorem dL_law_690 : decode cL_law 690 = .ok (.istore 5, 2) := by decide +kernel
theorem dL_law_692 : decode cL_law 692 = .ok (.aload_n 2, 1) := by decide +kernel
theorem dL_law_693 : decode cL_law 693 = .ok (.aload_n 0, 1) := by decide +kernel
theorem dL_law_694 : decode cL_law 694 = .ok (.iload 4, 2) := by decide +kernel
theorem dL_law_696 : decode cL_law 696 = .ok (.iconst 1, 1) := by decide +kernel
theorem dL_law_697 : decode cL_law 697 = .ok (.iadd, 1) := by decide +kernel
theorem dL_law_698 : decode cL_law 698 = .ok (.iaload, 1) := by decide +kernel
theorem dL_law_699 : decode cL_law 699 = .ok (.aload_n 0, 1) := by decide +kernel
theorem dL_law_700 : decode cL_law 700 = .ok (.iload 4, 2) := by decide +kernel
theorem dL_law_702 : decode cL_law 702 = .ok (.iconst 2, 1) := by decide +kernel
theorem dL_law_703 : decode cL_law 703 = .ok (.iadd, 1) := by decide +kernel
theorem dL_law_704 : decode cL_law 704 = .ok (.iaload, 1) := by decide +kernel
theorem dL_law_705 : decode cL_law 705 = .ok (.invokevirtual 143, 3) := by decide +kernel
theorem dL_law_708 : decode cL_law 708 = .ok (.istore 6, 2) := by decide +kernel
theorem dL_law_710 : decode cL_law 710 = .ok (.goto 178, 3) := by decide +kernel
theorem dL_law_713 : decode cL_law 713 = .ok (.aload_n 1, 1) := by decide +kernel
theorem dL_law_714 : decode cL_law 714 = .ok (.aload_n 0, 1) := by decide +kernel
theorem dL_law_715 : decode cL_law 715 = .ok (.iload 4, 2) := by decide +kernel
theorem dL_law_717 : decode cL_law 717 = .ok (.iconst 1, 1) := by decide +kernel
theorem dL_law_718 : decode cL_law 718 = .ok (.iadd, 1) := by decide +kernel
theorem dL_law_719 : decode cL_law 719 = .ok (.iaload, 1) := by decide +kernel
theorem dL_law_720 : decode cL_law 720 = .ok (.aload_n 0, 1) := by decide +kernel
theorem dL_law_721 : decode cL_law 721 = .ok (.iload 4, 2) := by decide +kernel
theorem dL_law_723 : decode cL_law 723 = .ok (.iconst 2, 1) := by decide +kernel
theorem dL_law_724 : decode cL_law 724 = .ok (.iadd, 1) := by decide +kernel
theorem dL_law_725 : decode cL_law 725 = .ok (.iaload, 1) := by decide +kernel
theorem dL_law_726 : decode cL_law 726 = .ok (.aload_n 3, 1) := by decide +kernel
theorem dL_law_727 : decode cL_law 727 = .ok (.invokestatic 144, 3) := by decide +kernel
theorem dL_law_730 : decode cL_law 730 = .ok (.istore 5, 2) := by decide +kernel
theorem dL_law_732 : decode cL_law 732 = .ok (.aload_n 2, 1) := by decide +kernel
theorem dL_law_733 : decode cL_law 733 = .ok (.aload_n 0, 1) := by decide +kernel
theorem dL_law_734 : decode cL_law 734 = .ok (.iload 4, 2) := by decide +kernel
theorem dL_law_736 : decode cL_law 736 = .ok (.iconst 1, 1) := by decide +kernel
theorem dL_law_737 : decode cL_law 737 = .ok (.iadd, 1) := by decide +kernel
theorem dL_law_738 : decode cL_law 738 = .ok (.iaload, 1) := by decide +kernel
theorem dL_law_739 : decode cL_law 739 = .ok (.aload_n 0, 1) := by decide +kernel
theorem dL_law_740 : decode cL_law 740 = .ok (.iload 4, 2) := by decide +kernel
theorem dL_law_742 : decode cL_law 742 = .ok (.iconst 2, 1) := by decide +kernel
theorem dL_law_743 : decode cL_law 743 = .ok (.iadd, 1) := by decide +kernel
theorem dL_law_744 : decode cL_law 744 = .ok (.iaload, 1) := by decide +kernel
theorem dL_law_745 : decode cL_law 745 = .ok (.invokevirtual 146, 3) := by decide +kernel
theorem dL_law_748 : decode cL_law 748 = .ok (.istore 6, 2) := by decide +kernel
theorem dL_law_750 : decode cL_law 750 = .ok (.goto 138, 3) := by decide +kernel
theorem dL_law_753 : decode cL_law 753 = .ok (.aload_n 1, 1) := by decide +kernel
theorem dL_law_754 : decode cL_law 754 = .ok (.aload_n 0, 1) := by decide +kernel
theorem dL_law_755 : decode cL_law 755 = .ok (.iload 4, 2) := by decide +kernel
theorem dL_law_757 : decode cL_law 757 = .ok (.iconst 1, 1) := by decide +kernel
theorem dL_law_758 : decode cL_law 758 = .ok (.iadd, 1) := by decide +kernel
theorem dL_law_759 : decode cL_law 759 = .ok (.iaload, 1) := by decide +kernel
theorem dL_law_760 : decode cL_law 760 = .ok (.aload_n 3, 1) := by decide +kernel
theorem dL_law_761 : decode cL_law 761 = .ok (.invokestatic 147, 3) := by decide +kernel
theorem dL_law_764 : decode cL_law 764 = .ok (.istore 5, 2) := by decide +kernel
theorem dL_law_766 : decode cL_law 766 = .ok (.aload_n 2, 1) := by decide +kernel
theorem dL_law_767 : decode cL_law 767 = .ok (.aload_n 0, 1) := by decide +kernel
theorem dL_law_768 : decode cL_law 768 = .ok (.iload 4, 2) := by decide +kernel
theorem dL_law_770 : decode cL_law 770 = .ok (.iconst 1, 1) := by decide +kernel
theorem dL_law_771 : decode cL_law 771 = .ok (.iadd, 1) := by decide +kernel
theorem dL_law_772 : decode cL_law 772 = .ok (.iaload, 1) := by decide +kernel
theorem dL_law_773 : decode cL_law 773 = .ok (.invokevirtual 149, 3) := by decide +kernel
theorem dL_law_776 : decode cL_law 776 = .ok (.astore 6, 2) := by decide +kernel
theorem dL_law_778 : decode cL_law 778 = .ok (.goto 110, 3) := by decide +kernel
theorem dL_law_781 : decode cL_law 781 = .ok (.aload_n 1, 1) := by decide +kernel
theorem dL_law_782 : decode cL_law 782 = .ok (.aload_n 0, 1) := by decide +kernel
theorem dL_law_783 : decode cL_law 783 = .ok (.iload 4, 2) := by decide +kernel
theorem dL_law_785 : decode cL_law 785 = .ok (.iconst 1, 1) := by decide +kernel
theorem dL_law_786 : decode cL_law 786 = .ok (.iadd, 1) := by decide +kernel
theorem dL_law_787 : decode cL_law 787 = .ok (.iaload, 1) := by decide +kernel
theorem dL_law_788 : decode cL_law 788 = .ok (.aload_n 0, 1) := by decide +kernel
theorem dL_law_789 : decode cL_law 789 = .ok (.iload 4, 2) := by decide +kernel
theorem dL_law_791 : decode cL_law 791 = .ok (.iconst 2, 1) := by decide +kernel
theorem dL_law_792 : decode cL_law 792 = .ok (.iadd, 1) := by decide +kernel
theorem dL_law_793 : decode cL_law 793 = .ok (.iaload, 1) := by decide +kernel
theorem dL_law_794 : decode cL_law 794 = .ok (.aload_n 3, 1) := by decide +kernel
theorem dL_law_795 : decode cL_law 795 = .ok (.invokestatic 150, 3) := by decide +kernel
theorem dL_law_798 : decode cL_law 798 = .ok (.istore 5, 2) := by decide +kernel
theorem dL_law_800 : decode cL_law 800 = .ok (.aload_n 2, 1) := by decide +kernel
theorem dL_law_801 : decode cL_law 801 = .ok (.aload_n 0, 1) := by decide +kernel
theorem dL_law_802 : decode cL_law 802 = .ok (.iload 4, 2) := by decide +kernel
theorem dL_law_804 : decode cL_law 804 = .ok (.iconst 1, 1) := by decide +kernel
theorem dL_law_805 : decode cL_law 805 = .ok (.iadd, 1) := by decide +kernel
theorem dL_law_806 : decode cL_law 806 = .ok (.iaload, 1) := by decide +kernel
theorem dL_law_807 : decode cL_law 807 = .ok (.aload_n 0, 1) := by decide +kernel
theorem dL_law_808 : decode cL_law 808 = .ok (.iload 4, 2) := by decide +kernel
theorem dL_law_810 : decode cL_law 810 = .ok (.iconst 2, 1) := by decide +kernel
theorem dL_law_811 : decode cL_law 811 = .ok (.iadd, 1) := by decide +kernel
theorem dL_law_812 : decode cL_law 812 = .ok (.iaload, 1) := by decide +kernel
theorem dL_law_813 : decode cL_law 813 = .ok (.invokevirtual 152, 3) := by decide +kernel
theorem dL_law_816 : decode cL_law 816 = .ok (.istore 6, 2) := by decide +kernel
theorem dL_law_818 : decode cL_law 818 = .ok (.goto 70, 3) := by decide +kernel
theorem dL_law_821 : decode cL_law 821 = .ok (.aload_n 1, 1) := by decide +kernel
theorem dL_law_822 : decode cL_law 822 = .ok (.aload_n 0, 1) := by decide +kernel
theorem dL_law_823 : decode cL_law 823 = .ok (.iload 4, 2) := by decide +kernel
theorem dL_law_825 : decode cL_law 825 = .ok (.iconst 1, 1) := by decide +kernel
theorem dL_law_826 : decode cL_law 826 = .ok (.iadd, 1) := by decide +kernel
theorem dL_law_827 : decode cL_law 827 = .ok (.iaload, 1) := by decide +kernel
theorem dL_law_828 : decode cL_law 828 = .ok (.aload_n 3, 1) := by decide +kernel
theorem dL_law_829 : decode cL_law 829 = .ok (.invokestatic 153, 3) := by decide +kernel
theorem dL_law_832 : decode cL_law 832 = .ok (.istore 5, 2) := by decide +kernel
theorem dL_law_834 : decode cL_law 834 = .ok (.aload_n 2, 1) := by decide +kernel
theorem dL_law_835 : decode cL_law 835 = .ok (.aload_n 0, 1) := by decide +kernel
theorem dL_law_836 : decode cL_law 836 = .ok (.iload 4, 2) := by decide +kernel
theorem dL_law_838 : decode cL_law 838 = .ok (.iconst 1, 1) := by decide +kernel
theorem dL_law_839 : decode cL_law 839 = .ok (.iadd, 1) := by decide +kernel
theorem dL_law_840 : decode cL_law 840 = .ok (.iaload, 1) := by decide +kernel
theorem dL_law_841 : decode cL_law 841 = .ok (.invokevirtual 155, 3) := by decide +kernel
theorem dL_law_844 : decode cL_law 844 = .ok (.istore 6, 2) := by decide +kernel
theorem dL_law_846 : decode cL_law 846 = .ok (.goto 42, 3) := by decide +kernel
theorem dL_law_849 : decode cL_law 849 = .ok (.aload_n 1, 1) := by decide +kernel
theorem dL_law_850 : decode cL_law 850 = .ok (.invokevirtual 156, 3) := by decide +kernel
theorem dL_law_853 : decode cL_law 853 = .ok (.pop, 1) := by decide +kernel
theorem dL_law_854 : decode cL_law 854 = .ok (.aload_n 2, 1) := by decide +kernel
theorem dL_law_855 : decode cL_law 855 = .ok (.invokevirtual 159, 3) := by decide +kernel
theorem dL_law_858 : decode cL_law 858 = .ok (.pop, 1) := by decide +kernel
theorem dL_law_859 : decode cL_law 859 = .ok (.goto 29, 3) := by decide +kernel
theorem dL_law_862 : decode cL_law 862 = .ok (.aload_n 1, 1) := by decide +kernel
theorem dL_law_863 : decode cL_law 863 = .ok (.invokevirtual 160, 3) := by decide +kernel
theorem dL_law_866 : decode cL_law 866 = .ok (.pop, 1) := by decide +kernel
theorem dL_law_867 : decode cL_law 867 = .ok (.aload_n 2, 1) := by decide +kernel
theorem dL_law_868 : decode cL_law 868 = .ok (.invokevirtual 164, 3) := by decide +kernel
theorem dL_law_871 : decode cL_law 871 = .ok (.pop, 1) := by decide +kernel
theorem dL_law_872 : decode cL_law 872 = .ok (.goto 16, 3) := by decide +kernel
theorem dL_law_875 : decode cL_law 875 = .ok (.aload_n 1, 1) := by decide +kernel
theorem dL_law_876 : decode cL_law 876 = .ok (.invokevirtual 165, 3) := by decide +kernel
theorem dL_law_879 : decode cL_law 879 = .ok (.pop2, 1) := by decide +kernel
theorem dL_law_880 : decode cL_law 880 = .ok (.aload_n 2, 1) := by decide +kernel
theorem dL_law_881 : decode cL_law 881 = .ok (.invokevirtual 169, 3) := by decide +kernel
theorem dL_law_884 : decode cL_law 884 = .ok (.pop2, 1) := by decide +kernel
theorem dL_law_885 : decode cL_law 885 = .ok (.goto 3, 3) := by decide +kernel
theorem dL_law_888 : decode cL_law 888 = .ok (.iinc 4 4, 3) := by decide +kernel
theorem dL_law_891 : decode cL_law 891 = .ok (.goto (-864), 3) := by decide +kernel
theorem dL_law_894 : decode cL_law 894 = .ok (.iconst 1, 1) := by decide +kernel
theorem dL_law_895 : decode cL_law 895 = .ok (.ireturn, 1) := by decide +kernel
def fL_law (nL : Nat) (xs : Nat → Int32) : Option (Int32) := ((fX6_init).bind fun x_2 => ((fX9_init).bind fun _ => ((fX7_init).bind fun x_54 => ((wl (S := Int32 × Nat × (Nat → Int32) × Int64 × (Nat → Nat) × (Nat → Nat → Nat → Int32) × (Nat → Int32) × (Nat → Nat → Int32) × Int64 × Nat × Nat) (B := (Int32 × Nat × (Nat → Int32) × Int64 × (Nat → Nat) × (Nat → Nat → Nat → Int32) × (Nat → Int32) × (Nat → Nat → Int32) × Int64 × Nat × Nat) ⊕ Int32) (fun s_58 => (if s_58.2.2.2.2.2.2.2.2.2.1 ≤ 1005400 ∧ s_58.2.2.2.2.2.2.2.2.2.2 ≤ 6079904 then (if ((nI nL) - 4) < s_58.1 then some (.inr (.inl (s_58.1, s_58.2.1, s_58.2.2.1, s_58.2.2.2.1, s_58.2.2.2.2.1, s_58.2.2.2.2.2.1, s_58.2.2.2.2.2.2.1, s_58.2.2.2.2.2.2.2.1, s_58.2.2.2.2.2.2.2.2.1, s_58.2.2.2.2.2.2.2.2.2.1, s_58.2.2.2.2.2.2.2.2.2.2))) else (if ¬ (s_58.1 < 0 ∨ nL ≤ s_58.1.toNatClampNeg) then (if ((xs s_58.1.toNatClampNeg) &&& 31) = 0 then (if ¬ ((s_58.1 + 1) < 0 ∨ nL ≤ (s_58.1 + 1).toNatClampNeg) then (if ¬ ((s_58.1 + 2) < 0 ∨ nL ≤ (s_58.1 + 2).toNatClampNeg) then (if ¬ ((s_58.1 + 3) < 0 ∨ nL ≤ (s_58.1 + 3).toNatClampNeg) then ((gL_shape s_58.2.2.2.2.2.2.1 s_58.2.2.2.2.2.2.2.1 s_58.2.2.2.2.2.2.2.2.1 (xs (s_58.1 + 1).toNatClampNeg) (xs (s_58.1 + 2).toNatClampNeg) (xs (s_58.1 + 3).toNatClampNeg)).bind fun x_68 => (if s_58.2.2.2.2.2.2.2.2.2.1 + 1 ≤ 1005400 ∧ s_58.2.2.2.2.2.2.2.2.2.2 + 6 ≤ 6079904 then (if ¬ ((s_58.1 + 1) < 0 ∨ nL ≤ (s_58.1 + 1).toNatClampNeg) then (if ¬ ((s_58.1 + 2) < 0 ∨ nL ≤ (s_58.1 + 2).toNatClampNeg) then (if ¬ ((s_58.1 + 3) < 0 ∨ nL ≤ (s_58.1 + 3).toNatClampNeg) then ((gX9w_shape s_58.2.1 s_58.2.2.1 s_58.2.2.2.1 s_58.2.2.2.2.1 s_58.2.2.2.2.2.1 (xs (s_58.1 + 1).toNatClampNeg) (xs (s_58.1 + 2).toNatClampNeg) (xs (s_58.1 + 3).toNatClampNeg)).bind fun x_77 => (if s_58.2.2.2.2.2.2.2.2.2.1 + 1 + 20 ≤ 1005400 ∧ s_58.2.2.2.2.2.2.2.2.2.2 + 6 + 180 ≤ 6079904 then some (.inl (s_58.1 + 4, x_77.2.1, x_77.2.2.1, x_77.2.2.2.1, x_77.2.2.2.2.1, x_77.2.2.2.2.2, x_68.2.1, x_68.2.2.1, x_68.2.2.2, s_58.2.2.2.2.2.2.2.2.2.1 + 1 + 20, s_58.2.2.2.2.2.2.2.2.2.2 + 6 + 180)) else none)) else none) else none) else none) else none)) else none) else none) else none) else (if ((xs s_58.1.toNatClampNeg) &&& 31) = 1 then (if ¬ ((s_58.1 + 1) < 0 ∨ nL ≤ (s_58.1 + 1).toNatClampNeg) then (if ¬ ((s_58.1 + 2) < 0 ∨ nL ≤ (s_58.1 + 2).toNatClampNeg) then (if ¬ ((s_58.1 + 3) < 0 ∨ nL ≤ (s_58.1 + 3).toNatClampNeg) then ((gL_left s_58.2.2.2.2.2.2.1 s_58.2.2.2.2.2.2.2.1 s_58.2.2.2.2.2.2.2.2.1 (xs (s_58.1 + 1).toNatClampNeg) (xs (s_58.1 + 2).toNatClampNeg) (xs (s_58.1 + 3).toNatClampNeg)).bind fun x_88 => (if s_58.2.2.2.2.2.2.2.2.2.1 + 1 ≤ 1005400 ∧ s_58.2.2.2.2.2.2.2.2.2.2 + 6 ≤ 6079904 then (if ¬ ((s_58.1 + 1) < 0 ∨ nL ≤ (s_58.1 + 1).toNatClampNeg) then (if ¬ ((s_58.1 + 2) < 0 ∨ nL ≤ (s_58.1 + 2).toNatClampNeg) then (if ¬ ((s_58.1 + 3) < 0 ∨ nL ≤ (s_58.1 + 3).toNatClampNeg) then ((gX9w_left s_58.2.1 s_58.2.2.1 s_58.2.2.2.1 s_58.2.2.2.2.1 s_58.2.2.2.2.2.1 (xs (s_58.1 + 1).toNatClampNeg) (xs (s_58.1 + 2).toNatClampNeg) (xs (s_58.1 + 3).toNatClampNeg)).bind fun x_97 => some (.inl (s_58.1 + 4, x_97.2.1, x_97.2.2.1, x_97.2.2.2.1, x_97.2.2.2.2.1, x_97.2.2.2.2.2, x_88.2.1, x_88.2.2.1, x_88.2.2.2, s_58.2.2.2.2.2.2.2.2.2.1 + 1, s_58.2.2.2.2.2.2.2.2.2.2 + 6))) else none) else none) else none) else none)) else none) else none) else none) else (if ((xs s_58.1.toNatClampNeg) &&& 31) = 2 then (if ¬ ((s_58.1 + 1) < 0 ∨ nL ≤ (s_58.1 + 1).toNatClampNeg) then (if ¬ ((s_58.1 + 2) < 0 ∨ nL ≤ (s_58.1 + 2).toNatClampNeg) then (if ¬ ((s_58.1 + 3) < 0 ∨ nL ≤ (s_58.1 + 3).toNatClampNeg) then ((gL_top s_58.2.2.2.2.2.2.1 s_58.2.2.2.2.2.2.2.1 s_58.2.2.2.2.2.2.2.2.1 (xs (s_58.1 + 1).toNatClampNeg) (xs (s_58.1 + 2).toNatClampNeg) (xs (s_58.1 + 3).toNatClampNeg)).bind fun x_107 => (if s_58.2.2.2.2.2.2.2.2.2.1 + 1 ≤ 1005400 ∧ s_58.2.2.2.2.2.2.2.2.2.2 + 6 ≤ 6079904 then (if ¬ ((s_58.1 + 1) < 0 ∨ nL ≤ (s_58.1 + 1).toNatClampNeg) then (if ¬ ((s_58.1 + 2) < 0 ∨ nL ≤ (s_58.1 + 2).toNatClampNeg) then (if ¬ ((s_58.1 + 3) < 0 ∨ nL ≤ (s_58.1 + 3).toNatClampNeg) then ((gX9w_top s_58.2.1 s_58.2.2.1 s_58.2.2.2.1 s_58.2.2.2.2.1 s_58.2.2.2.2.2.1 (xs (s_58.1 + 1).toNatClampNeg) (xs (s_58.1 + 2).toNatClampNeg) (xs (s_58.1 + 3).toNatClampNeg)).bind fun x_116 => some (.inl (s_58.1 + 4, x_116.2.1, x_116.2.2.1, x_116.2.2.2.1, x_116.2.2.2.2.1, x_116.2.2.2.2.2, x_107.2.1, x_107.2.2.1, x_107.2.2.2, s_58.2.2.2.2.2.2.2.2.2.1 + 1, s_58.2.2.2.2.2.2.2.2.2.2 + 6))) else none) else none) else none) else none)) else none) else none) else none) else (if ((xs s_58.1.toNatClampNeg) &&& 31) = 3 then (if ¬ ((s_58.1 + 1) < 0 ∨ nL ≤ (s_58.1 + 1).toNatClampNeg) then ((gL_kind s_58.2.2.2.2.2.2.1 s_58.2.2.2.2.2.2.2.1 s_58.2.2.2.2.2.2.2.2.1 (xs (s_58.1 + 1).toNatClampNeg)).bind fun x_124 => (if s_58.2.2.2.2.2.2.2.2.2.1 + 1 ≤ 1005400 ∧ s_58.2.2.2.2.2.2.2.2.2.2 + 6 ≤ 6079904 then (if ¬ ((s_58.1 + 1) < 0 ∨ nL ≤ (s_58.1 + 1).toNatClampNeg) then ((gX9w_kind s_58.2.1 s_58.2.2.1 s_58.2.2.2.1 s_58.2.2.2.2.1 s_58.2.2.2.2.2.1 (xs (s_58.1 + 1).toNatClampNeg)).bind fun x_131 => some (.inl (s_58.1 + 4, x_131.2.1, x_131.2.2.1, x_131.2.2.2.1, x_131.2.2.2.2.1, x_131.2.2.2.2.2, x_124.2.1, x_124.2.2.1, x_124.2.2.2, s_58.2.2.2.2.2.2.2.2.2.1 + 1, s_58.2.2.2.2.2.2.2.2.2.2 + 6))) else none) else none)) else none) else (if ((xs s_58.1.toNatClampNeg) &&& 31) = 4 then (if ¬ ((s_58.1 + 1) < 0 ∨ nL ≤ (s_58.1 + 1).toNatClampNeg) then ((((if (xs (s_58.1 + 1).toNatClampNeg) = 0 then some 0 else some 1) : Option (Int32))).bind fun r_140 => ((gL_checked s_58.2.2.2.2.2.2.1 s_58.2.2.2.2.2.2.2.1 s_58.2.2.2.2.2.2.2.2.1 r_140).bind fun x_141 => (if s_58.2.2.2.2.2.2.2.2.2.1 + 1 ≤ 1005400 ∧ s_58.2.2.2.2.2.2.2.2.2.2 + 6 ≤ 6079904 then (if ¬ ((s_58.1 + 1) < 0 ∨ nL ≤ (s_58.1 + 1).toNatClampNeg) then ((((if (xs (s_58.1 + 1).toNatClampNeg) = 0 then some 0 else some 1) : Option (Int32))).bind fun r_149 => ((gX9w_checked s_58.2.1 s_58.2.2.1 s_58.2.2.2.1 s_58.2.2.2.2.1 s_58.2.2.2.2.2.1 r_149).bind fun x_150 => some (.inl (s_58.1 + 4, x_150.2.1, x_150.2.2.1, x_150.2.2.2.1, x_150.2.2.2.2.1, x_150.2.2.2.2.2, x_141.2.1, x_141.2.2.1, x_141.2.2.2, s_58.2.2.2.2.2.2.2.2.2.1 + 1, s_58.2.2.2.2.2.2.2.2.2.2 + 6)))) else none) else none))) else none) else (if ((xs s_58.1.toNatClampNeg) &&& 31) = 5 then (if ¬ ((s_58.1 + 1) < 0 ∨ nL ≤ (s_58.1 + 1).toNatClampNeg) then (if ¬ ((s_58.1 + 2) < 0 ∨ nL ≤ (s_58.1 + 2).toNatClampNeg) then (if ¬ ((s_58.1 + 3) < 0 ∨ nL ≤ (s_58.1 + 3).toNatClampNeg) then ((((if (xs (s_58.1 + 3).toNatClampNeg) = 0 then some 0 else some 1) : Option (Int32))).bind fun r_167 => ((gL_broken s_58.2.2.2.2.2.2.1 s_58.2.2.2.2.2.2.2.1 s_58.2.2.2.2.2.2.2.2.1 (xs (s_58.1 + 1).toNatClampNeg) (xs (s_58.1 + 2).toNatClampNeg) r_167).bind fun x_168 => (if s_58.2.2.2.2.2.2.2.2.2.1 + 1 ≤ 1005400 ∧ s_58.2.2.2.2.2.2.2.2.2.2 + 6 ≤ 6079904 then (if ¬ ((s_58.1 + 1) < 0 ∨ nL ≤ (s_58.1 + 1).toNatClampNeg) then (if ¬ ((s_58.1 + 2) < 0 ∨ nL ≤ (s_58.1 + 2).toNatClampNeg) then (if ¬ ((s_58.1 + 3) < 0 ∨ nL ≤ (s_58.1 + 3).toNatClampNeg) then ((((if (xs (s_58.1 + 3).toNatClampNeg) = 0 then some 0 else some 1) : Option (Int32))).bind fun r_178 => ((gX9w_broken s_58.2.1 s_58.2.2.1 s_58.2.2.2.1 s_58.2.2.2.2.1 s_58.2.2.2.2.2.1 (xs (s_58.1 + 1).toNatClampNeg) (xs (s_58.1 + 2).toNatClampNeg) r_178).bind fun x_179 => some (.inl (s_58.1 + 4, x_179.2.1, x_179.2.2.1, x_179.2.2.2.1, x_179.2.2.2.2.1, x_179.2.2.2.2.2, x_168.2.1, x_168.2.2.1, x_168.2.2.2, s_58.2.2.2.2.2.2.2.2.2.1 + 1, s_58.2.2.2.2.2.2.2.2.2.2 + 6)))) else none) else none) else none) else none))) else none) else none) else none) else (if ((xs s_58.1.toNatClampNeg) &&& 31) = 6 then ((gL_test s_58.2.2.2.2.2.2.1 s_58.2.2.2.2.2.2.2.1 s_58.2.2.2.2.2.2.2.2.1).bind fun x_192 => (if s_58.2.2.2.2.2.2.2.2.2.1 + 1 ≤ 1005400 ∧ s_58.2.2.2.2.2.2.2.2.2.2 + 6 ≤ 6079904 then ((gX9w_test s_58.2.1 s_58.2.2.1 s_58.2.2.2.1 s_58.2.2.2.2.1 s_58.2.2.2.2.2.1).bind fun x_198 => (if s_58.2.2.2.2.2.2.2.2.2.1 + 1 + 10 ≤ 1005400 ∧ s_58.2.2.2.2.2.2.2.2.2.2 + 6 + 50 ≤ 6079904 then some (.inl (s_58.1 + 4, x_198.2.1, x_198.2.2.1, x_198.2.2.2.1, x_198.2.2.2.2.1, x_198.2.2.2.2.2, x_192.2.1, x_192.2.2.1, x_192.2.2.2, s_58.2.2.2.2.2.2.2.2.2.1 + 1 + 10, s_58.2.2.2.2.2.2.2.2.2.2 + 6 + 50)) else none)) else none)) else (if ((xs s_58.1.toNatClampNeg) &&& 31) = 7 then ((gL_start s_58.2.2.2.2.2.2.1 s_58.2.2.2.2.2.2.2.1 s_58.2.2.2.2.2.2.2.2.1).bind fun x_206 => (if s_58.2.2.2.2.2.2.2.2.2.1 + 1 ≤ 1005400 ∧ s_58.2.2.2.2.2.2.2.2.2.2 + 6 ≤ 6079904 then ((gX9w_begin s_58.2.1 s_58.2.2.1 s_58.2.2.2.1 s_58.2.2.2.2.1 s_58.2.2.2.2.2.1).bind fun x_212 => (if s_58.2.2.2.2.2.2.2.2.2.1 + 1 + 100 ≤ 1005400 ∧ s_58.2.2.2.2.2.2.2.2.2.2 + 6 + 500 ≤ 6079904 then some (.inl (s_58.1 + 4, x_212.2.1, x_212.2.2.1, x_212.2.2.2.1, x_212.2.2.2.2.1, x_212.2.2.2.2.2, x_206.2.1, x_206.2.2.1, x_206.2.2.2, s_58.2.2.2.2.2.2.2.2.2.1 + 1 + 100, s_58.2.2.2.2.2.2.2.2.2.2 + 6 + 500)) else none)) else none)) else (if ((xs s_58.1.toNatClampNeg) &&& 31) = 8 then (if ¬ ((s_58.1 + 1) < 0 ∨ nL ≤ (s_58.1 + 1).toNatClampNeg) then ((gL_beat s_58.2.2.2.2.2.2.1 s_58.2.2.2.2.2.2.2.1 s_58.2.2.2.2.2.2.2.2.1 (xs (s_58.1 + 1).toNatClampNeg)).bind fun x_221 => (if s_58.2.2.2.2.2.2.2.2.2.1 + 1 ≤ 1005400 ∧ s_58.2.2.2.2.2.2.2.2.2.2 + 6 ≤ 6079904 then (if ¬ ((s_58.1 + 1) < 0 ∨ nL ≤ (s_58.1 + 1).toNatClampNeg) then ((gX9w_beat s_58.2.1 s_58.2.2.1 s_58.2.2.2.1 s_58.2.2.2.2.1 s_58.2.2.2.2.2.1 (xs (s_58.1 + 1).toNatClampNeg)).bind fun x_228 => (if s_58.2.2.2.2.2.2.2.2.2.1 + 1 + 200 ≤ 1005400 ∧ s_58.2.2.2.2.2.2.2.2.2.2 + 6 + 1800 ≤ 6079904 then some (.inl (s_58.1 + 4, x_228.2.1, x_228.2.2.1, x_228.2.2.2.1, x_228.2.2.2.2.1, x_228.2.2.2.2.2, x_221.2.1, x_221.2.2.1, x_221.2.2.2, s_58.2.2.2.2.2.2.2.2.2.1 + 1 + 200, s_58.2.2.2.2.2.2.2.2.2.2 + 6 + 1800)) else none)) else none) else none)) else none) else (if ((xs s_58.1.toNatClampNeg) &&& 31) = 9 then (if ¬ ((s_58.1 + 1) < 0 ∨ nL ≤ (s_58.1 + 1).toNatClampNeg) then (if ¬ ((s_58.1 + 2) < 0 ∨ nL ≤ (s_58.1 + 2).toNatClampNeg) then (if ¬ ((s_58.1 + 3) < 0 ∨ nL ≤ (s_58.1 + 3).toNatClampNeg) then ((gL_bend s_58.2.2.2.2.2.2.1 s_58.2.2.2.2.2.2.2.1 s_58.2.2.2.2.2.2.2.2.1 (xs (s_58.1 + 1).toNatClampNeg) (xs (s_58.1 + 2).toNatClampNeg) (xs (s_58.1 + 3).toNatClampNeg)).bind fun x_239 => (if s_58.2.2.2.2.2.2.2.2.2.1 + 1 ≤ 1005400 ∧ s_58.2.2.2.2.2.2.2.2.2.2 + 6 ≤ 6079904 then (if ¬ ((s_58.1 + 1) < 0 ∨ nL ≤ (s_58.1 + 1).toNatClampNeg) then (if ¬ ((s_58.1 + 2) < 0 ∨ nL ≤ (s_58.1 + 2).toNatClampNeg) then (if ¬ ((s_58.1 + 3) < 0 ∨ nL ≤ (s_58.1 + 3).toNatClampNeg) then ((gX9w_bend s_58.2.1 s_58.2.2.1 s_58.2.2.2.1 s_58.2.2.2.2.1 s_58.2.2.2.2.2.1 (xs (s_58.1 + 1).toNatClampNeg) (xs (s_58.1 + 2).toNatClampNeg) (xs (s_58.1 + 3).toNatClampNeg)).bind fun x_248 => some (.inl (s_58.1 + 4, x_248.2.1, x_248.2.2.1, x_248.2.2.2.1, x_248.2.2.2.2.1, x_248.2.2.2.2.2, x_239.2.1, x_239.2.2.1, x_239.2.2.2, s_58.2.2.2.2.2.2.2.2.2.1 + 1, s_58.2.2.2.2.2.2.2.2.2.2 + 6))) else none) else none) else none) else none)) else none) else none) else none) else (if ((xs s_58.1.toNatClampNeg) &&& 31) = 10 then ((gL_check s_58.2.2.2.2.2.2.1 s_58.2.2.2.2.2.2.2.1 s_58.2.2.2.2.2.2.2.2.1).bind fun x_255 => (if s_58.2.2.2.2.2.2.2.2.2.1 + 1 ≤ 1005400 ∧ s_58.2.2.2.2.2.2.2.2.2.2 + 6 ≤ 6079904 then ((gX9w_check s_58.2.1 s_58.2.2.1 s_58.2.2.2.1 s_58.2.2.2.2.1 s_58.2.2.2.2.2.1).bind fun x_261 => some (.inl (s_58.1 + 4, x_261.2.1, x_261.2.2.1, x_261.2.2.2.1, x_261.2.2.2.2.1, x_261.2.2.2.2.2, x_255.2.1, x_255.2.2.1, x_255.2.2.2, s_58.2.2.2.2.2.2.2.2.2.1 + 1, s_58.2.2.2.2.2.2.2.2.2.2 + 6))) else none)) else (if ((xs s_58.1.toNatClampNeg) &&& 31) = 11 then (if ¬ ((s_58.1 + 1) < 0 ∨ nL ≤ (s_58.1 + 1).toNatClampNeg) then ((gL_mesh s_58.2.2.2.2.2.2.1 s_58.2.2.2.2.2.2.2.1 s_58.2.2.2.2.2.2.2.2.1 (xs (s_58.1 + 1).toNatClampNeg)).bind fun x_269 => (if s_58.2.2.2.2.2.2.2.2.2.1 + 1 ≤ 1005400 ∧ s_58.2.2.2.2.2.2.2.2.2.2 + 6 ≤ 6079904 then (if ¬ ((s_58.1 + 1) < 0 ∨ nL ≤ (s_58.1 + 1).toNatClampNeg) then ((gX9w_mesh s_58.2.1 s_58.2.2.1 s_58.2.2.2.1 s_58.2.2.2.2.1 s_58.2.2.2.2.2.1 (xs (s_58.1 + 1).toNatClampNeg)).bind fun x_276 => ((gX9w_thrown x_276.2.1 x_276.2.2.1 x_276.2.2.2.1 x_276.2.2.2.2.1 x_276.2.2.2.2.2).bind fun x_282 => (if x_282.1 = x_269.1 then (if x_269.1 = 0 then (if (lg_cmp x_269.2.2.2 x_276.1.toInt64) = 0 then some (.inl (s_58.1 + 4, x_282.2.1, x_282.2.2.1, x_282.2.2.2.1, x_282.2.2.2.2.1, x_282.2.2.2.2.2, x_269.2.1, x_269.2.2.1, x_269.2.2.2, s_58.2.2.2.2.2.2.2.2.2.1 + 1, s_58.2.2.2.2.2.2.2.2.2.2 + 6)) else some (.inr (.inr 0))) else some (.inl (s_58.1 + 4, x_282.2.1, x_282.2.2.1, x_282.2.2.2.1, x_282.2.2.2.2.1, x_282.2.2.2.2.2, x_269.2.1, x_269.2.2.1, x_269.2.2.2, s_58.2.2.2.2.2.2.2.2.2.1 + 1, s_58.2.2.2.2.2.2.2.2.2.2 + 6))) else some (.inr (.inr 0))))) else none) else none)) else none) else (if ((xs s_58.1.toNatClampNeg) &&& 31) = 12 then (if ¬ ((s_58.1 + 1) < 0 ∨ nL ≤ (s_58.1 + 1).toNatClampNeg) then (if ¬ ((s_58.1 + 2) < 0 ∨ nL ≤ (s_58.1 + 2).toNatClampNeg) then (if ¬ ((s_58.1 + 3) < 0 ∨ nL ≤ (s_58.1 + 3).toNatClampNeg) then ((gL_ofCell s_58.2.2.2.2.2.2.1 s_58.2.2.2.2.2.2.2.1 s_58.2.2.2.2.2.2.2.2.1 (xs (s_58.1 + 1).toNatClampNeg) (xs (s_58.1 + 2).toNatClampNeg) (xs (s_58.1 + 3).toNatClampNeg)).bind fun x_297 => (if s_58.2.2.2.2.2.2.2.2.2.1 + 1 ≤ 1005400 ∧ s_58.2.2.2.2.2.2.2.2.2.2 + 6 ≤ 6079904 then (if ¬ ((s_58.1 + 1) < 0 ∨ nL ≤ (s_58.1 + 1).toNatClampNeg) then (if ¬ ((s_58.1 + 2) < 0 ∨ nL ≤ (s_58.1 + 2).toNatClampNeg) then (if ¬ ((s_58.1 + 3) < 0 ∨ nL ≤ (s_58.1 + 3).toNatClampNeg) then ((gX9w_ofCell s_58.2.1 s_58.2.2.1 s_58.2.2.2.1 s_58.2.2.2.2.1 s_58.2.2.2.2.2.1 (xs (s_58.1 + 1).toNatClampNeg) (xs (s_58.1 + 2).toNatClampNeg) (xs (s_58.1 + 3).toNatClampNeg)).bind fun x_306 => some (.inl (s_58.1 + 4, x_306.2.1, x_306.2.2.1, x_306.2.2.2.1, x_306.2.2.2.2.1, x_306.2.2.2.2.2, x_297.2.1, x_297.2.2.1, x_297.2.2.2, s_58.2.2.2.2.2.2.2.2.2.1 + 1, s_58.2.2.2.2.2.2.2.2.2.2 + 6))) else none) else none) else none) else none)) else none) else none) else none) else (if ((xs s_58.1.toNatClampNeg) &&& 31) = 13 then (if ¬ ((s_58.1 + 1) < 0 ∨ nL ≤ (s_58.1 + 1).toNatClampNeg) then (if ¬ ((s_58.1 + 2) < 0 ∨ nL ≤ (s_58.1 + 2).toNatClampNeg) then ((gL_result s_58.2.2.2.2.2.2.1 s_58.2.2.2.2.2.2.2.1 s_58.2.2.2.2.2.2.2.2.1 (xs (s_58.1 + 1).toNatClampNeg) (xs (s_58.1 + 2).toNatClampNeg)).bind fun x_315 => (if s_58.2.2.2.2.2.2.2.2.2.1 + 1 ≤ 1005400 ∧ s_58.2.2.2.2.2.2.2.2.2.2 + 6 ≤ 6079904 then (if ¬ ((s_58.1 + 1) < 0 ∨ nL ≤ (s_58.1 + 1).toNatClampNeg) then (if ¬ ((s_58.1 + 2) < 0 ∨ nL ≤ (s_58.1 + 2).toNatClampNeg) then ((gX9w_result s_58.2.1 s_58.2.2.1 s_58.2.2.2.1 s_58.2.2.2.2.1 s_58.2.2.2.2.2.1 (xs (s_58.1 + 1).toNatClampNeg) (xs (s_58.1 + 2).toNatClampNeg)).bind fun x_323 => some (.inl (s_58.1 + 4, x_323.2.1, x_323.2.2.1, x_323.2.2.2.1, x_323.2.2.2.2.1, x_323.2.2.2.2.2, x_315.2.1, x_315.2.2.1, x_315.2.2.2, s_58.2.2.2.2.2.2.2.2.2.1 + 1, s_58.2.2.2.2.2.2.2.2.2.2 + 6))) else none) else none) else none)) else none) else none) else (if ((xs s_58.1.toNatClampNeg) &&& 31) = 14 then (if ¬ ((s_58.1 + 1) < 0 ∨ nL ≤ (s_58.1 + 1).toNatClampNeg) then (if ¬ ((s_58.1 + 2) < 0 ∨ nL ≤ (s_58.1 + 2).toNatClampNeg) then ((gL_plain s_58.2.2.2.2.2.2.1 s_58.2.2.2.2.2.2.2.1 s_58.2.2.2.2.2.2.2.2.1 (xs (s_58.1 + 1).toNatClampNeg) (xs (s_58.1 + 2).toNatClampNeg)).bind fun x_332 => (if s_58.2.2.2.2.2.2.2.2.2.1 + 1 ≤ 1005400 ∧ s_58.2.2.2.2.2.2.2.2.2.2 + 6 ≤ 6079904 then (if ¬ ((s_58.1 + 1) < 0 ∨ nL ≤ (s_58.1 + 1).toNatClampNeg) then (if ¬ ((s_58.1 + 2) < 0 ∨ nL ≤ (s_58.1 + 2).toNatClampNeg) then ((gX9w_plain s_58.2.1 s_58.2.2.1 s_58.2.2.2.1 s_58.2.2.2.2.1 s_58.2.2.2.2.2.1 (xs (s_58.1 + 1).toNatClampNeg) (xs (s_58.1 + 2).toNatClampNeg)).bind fun x_340 => some (.inl (s_58.1 + 4, x_340.2.1, x_340.2.2.1, x_340.2.2.2.1, x_340.2.2.2.2.1, x_340.2.2.2.2.2, x_332.2.1, x_332.2.2.1, x_332.2.2.2, s_58.2.2.2.2.2.2.2.2.2.1 + 1, s_58.2.2.2.2.2.2.2.2.2.2 + 6))) else none) else none) else none)) else none) else none) else (if ((xs s_58.1.toNatClampNeg) &&& 31) = 15 then (if ¬ ((s_58.1 + 1) < 0 ∨ nL ≤ (s_58.1 + 1).toNatClampNeg) then ((gL_row s_58.2.2.2.2.2.2.1 s_58.2.2.2.2.2.2.2.1 s_58.2.2.2.2.2.2.2.2.1 (xs (s_58.1 + 1).toNatClampNeg)).bind fun x_348 => (if s_58.2.2.2.2.2.2.2.2.2.1 + 4 ≤ 1005400 ∧ s_58.2.2.2.2.2.2.2.2.2.2 + 40 ≤ 6079904 then (if ¬ ((s_58.1 + 1) < 0 ∨ nL ≤ (s_58.1 + 1).toNatClampNeg) then ((gX9w_row s_58.2.1 s_58.2.2.1 s_58.2.2.2.1 s_58.2.2.2.2.1 s_58.2.2.2.2.2.1 (xs (s_58.1 + 1).toNatClampNeg)).bind fun x_355 => (if s_58.2.2.2.2.2.2.2.2.2.1 + 4 + 4 ≤ 1005400 ∧ s_58.2.2.2.2.2.2.2.2.2.2 + 40 + 40 ≤ 6079904 then some (.inl (s_58.1 + 4, x_355.1, x_355.2.1, x_355.2.2.1, x_355.2.2.2.1, x_355.2.2.2.2, x_348.2.1, x_348.2.2.1, x_348.2.2.2, s_58.2.2.2.2.2.2.2.2.2.1 + 4 + 4, s_58.2.2.2.2.2.2.2.2.2.2 + 40 + 40)) else none)) else none) else none)) else none) else (if ((xs s_58.1.toNatClampNeg) &&& 31) = 16 then (if ¬ ((s_58.1 + 1) < 0 ∨ nL ≤ (s_58.1 + 1).toNatClampNeg) then (if ¬ ((s_58.1 + 2) < 0 ∨ nL ≤ (s_58.1 + 2).toNatClampNeg) then ((gL_beats s_58.2.2.2.2.2.2.1 s_58.2.2.2.2.2.2.2.1 s_58.2.2.2.2.2.2.2.2.1 (xs (s_58.1 + 1).toNatClampNeg) (xs (s_58.1 + 2).toNatClampNeg)).bind fun x_366 => (if s_58.2.2.2.2.2.2.2.2.2.1 + 1 ≤ 1005400 ∧ s_58.2.2.2.2.2.2.2.2.2.2 + 6 ≤ 6079904 then (if ¬ ((s_58.1 + 1) < 0 ∨ nL ≤ (s_58.1 + 1).toNatClampNeg) then (if ¬ ((s_58.1 + 2) < 0 ∨ nL ≤ (s_58.1 + 2).toNatClampNeg) then ((gX9w_beats s_58.2.1 s_58.2.2.1 s_58.2.2.2.1 s_58.2.2.2.2.1 s_58.2.2.2.2.2.1 (xs (s_58.1 + 1).toNatClampNeg) (xs (s_58.1 + 2).toNatClampNeg)).bind fun x_374 => some (.inl (s_58.1 + 4, x_374.2.1, x_374.2.2.1, x_374.2.2.2.1, x_374.2.2.2.2.1, x_374.2.2.2.2.2, x_366.2.1, x_366.2.2.1, x_366.2.2.2, s_58.2.2.2.2.2.2.2.2.2.1 + 1, s_58.2.2.2.2.2.2.2.2.2.2 + 6))) else none) else none) else none)) else none) else none) else (if ((xs s_58.1.toNatClampNeg) &&& 31) = 17 then (if ¬ ((s_58.1 + 1) < 0 ∨ nL ≤ (s_58.1 + 1).toNatClampNeg) then ((gL_best s_58.2.2.2.2.2.2.1 s_58.2.2.2.2.2.2.2.1 s_58.2.2.2.2.2.2.2.2.1 (xs (s_58.1 + 1).toNatClampNeg)).bind fun x_382 => (if s_58.2.2.2.2.2.2.2.2.2.1 + 1 ≤ 1005400 ∧ s_58.2.2.2.2.2.2.2.2.2.2 + 6 ≤ 6079904 then (if ¬ ((s_58.1 + 1) < 0 ∨ nL ≤ (s_58.1 + 1).toNatClampNeg) then ((gX9w_best s_58.2.1 s_58.2.2.1 s_58.2.2.2.1 s_58.2.2.2.2.1 s_58.2.2.2.2.2.1 (xs (s_58.1 + 1).toNatClampNeg)).bind fun x_389 => (if s_58.2.2.2.2.2.2.2.2.2.1 + 1 + 30 ≤ 1005400 ∧ s_58.2.2.2.2.2.2.2.2.2.2 + 6 + 60 ≤ 6079904 then some (.inl (s_58.1 + 4, x_389.2.1, x_389.2.2.1, x_389.2.2.2.1, x_389.2.2.2.2.1, x_389.2.2.2.2.2, x_382.2.1, x_382.2.2.1, x_382.2.2.2, s_58.2.2.2.2.2.2.2.2.2.1 + 1 + 30, s_58.2.2.2.2.2.2.2.2.2.2 + 6 + 60)) else none)) else none) else none)) else none) else (if ((xs s_58.1.toNatClampNeg) &&& 31) = 18 then ((gX6_saved s_58.2.2.2.2.2.2.1 s_58.2.2.2.2.2.2.2.1).bind fun x_397 => ((gX9w_saved s_58.2.1 s_58.2.2.1 s_58.2.2.2.1 s_58.2.2.2.2.1 s_58.2.2.2.2.2.1).bind fun x_401 => (if s_58.2.2.2.2.2.2.2.2.2.1 + 60 ≤ 1005400 ∧ s_58.2.2.2.2.2.2.2.2.2.2 + 120 ≤ 6079904 then some (.inl (s_58.1 + 4, x_401.2.1, x_401.2.2.1, x_401.2.2.2.1, x_401.2.2.2.2.1, x_401.2.2.2.2.2, x_397.2.1, x_397.2.2, s_58.2.2.2.2.2.2.2.2.1, s_58.2.2.2.2.2.2.2.2.2.1 + 60, s_58.2.2.2.2.2.2.2.2.2.2 + 120)) else none))) else (if ((xs s_58.1.toNatClampNeg) &&& 31) = 19 then ((gX6_isSound s_58.2.2.2.2.2.2.1 s_58.2.2.2.2.2.2.2.1).bind fun x_409 => ((gX9w_isSound s_58.2.1 s_58.2.2.1 s_58.2.2.2.1 s_58.2.2.2.2.1 s_58.2.2.2.2.2.1).bind fun x_413 => (if s_58.2.2.2.2.2.2.2.2.2.1 + 30 ≤ 1005400 ∧ s_58.2.2.2.2.2.2.2.2.2.2 + 60 ≤ 6079904 then some (.inl (s_58.1 + 4, x_413.2.1, x_413.2.2.1, x_413.2.2.2.1, x_413.2.2.2.2.1, x_413.2.2.2.2.2, x_409.2.1, x_409.2.2, s_58.2.2.2.2.2.2.2.2.1, s_58.2.2.2.2.2.2.2.2.2.1 + 30, s_58.2.2.2.2.2.2.2.2.2.2 + 60)) else none))) else (if ((xs s_58.1.toNatClampNeg) &&& 31) = 20 then ((gX6_digest s_58.2.2.2.2.2.2.1 s_58.2.2.2.2.2.2.2.1).bind fun x_421 => ((gX9w_digest s_58.2.1 s_58.2.2.1 s_58.2.2.2.1 s_58.2.2.2.2.1 s_58.2.2.2.2.2.1).bind fun x_425 => (if s_58.2.2.2.2.2.2.2.2.2.1 + 300 ≤ 1005400 ∧ s_58.2.2.2.2.2.2.2.2.2.2 + 600 ≤ 6079904 then some (.inl (s_58.1 + 4, x_425.2.1, x_425.2.2.1, x_425.2.2.2.1, x_425.2.2.2.2.1, x_425.2.2.2.2.2, x_421.2.1, x_421.2.2, s_58.2.2.2.2.2.2.2.2.1, s_58.2.2.2.2.2.2.2.2.2.1 + 300, s_58.2.2.2.2.2.2.2.2.2.2 + 600)) else none))) else some (.inl (s_58.1 + 4, s_58.2.1, s_58.2.2.1, s_58.2.2.2.1, s_58.2.2.2.2.1, s_58.2.2.2.2.2.1, s_58.2.2.2.2.2.2.1, s_58.2.2.2.2.2.2.2.1, s_58.2.2.2.2.2.2.2.2.1, s_58.2.2.2.2.2.2.2.2.2.1, s_58.2.2.2.2.2.2.2.2.2.2))))))))))))))))))))))) else none)) else none)) yFuel (0, 0, MN0, ML0, MK0, MG0, CN0, CT0, 0, 0 + 1 + 22 + 1 + 47 + 1, 0 + 6 + 637 + 17 + 307 + 2)).bind fun b_58 => ybr b_58 (fun z_58 => (if z_58.2.2.2.2.2.2.2.2.2.1 ≤ 1005400 ∧ z_58.2.2.2.2.2.2.2.2.2.2 ≤ 6079904 then some 1 else none)) (fun r => some r)))))
set_option maxHeartbeats 4000000 in
set_option maxRecDepth 100000 in
theorem kL_law (l : Launch) (D : va_G) (cy : Nat → ClassId) (hl0 : l.stackTraces = false) (b nL : Nat) (xs : Nat → Int32) {res : Int32} (hR : fL_law nL xs = some res) {p : Program} {e : Env} {s : State} {m : MethodId} {args : Array Value} {below : List Frame} {meth : Method} {c : Code} {A : Nat → Prop} {H0 : Heap} {Q : State → Prop} (C : YC p s m args c cL_law RL D cy 7 A H0) (hX : va_X b nL xs s H0) (hbl : b < H0.size) (hbA : ¬ A b) (ret : ∀ {u : List va_W} {cells slots : Nat} {lv : List (Nat × Value)} {pc : Nat} (v : Int32), v = res → cells ≤ 1005400 → slots ≤ 6079904 → decode cL_law pc = .ok (.ireturn, 1) → X p l e room_1 s m args below meth c D A H0 7 Q u cells slots lv pc [.int v]) : X p l e room_1 s m args below meth c D A H0 7 Q [] 0 0 [(0, .ref b)] 0 [] := by
  unfold fL_law at hR
  refine xr_new (n := 3) (ci := 8) C tyX6 tyX6_ok in_X6 u_84 u_85 u_57 rfl [.null, .null, .null, .null, .null, .null] (by decide) (Nat.le_of_ble_eq_true rfl) (Nat.le_of_ble_eq_true rfl) dL_law_0 rfl (fun q_1 => ?_)
  refine xr_eq (bs' := [[(q_1, .inr (8, [.null, .null, .null, .null, .null, .null]))]]) rfl ?_
  refine xr_dup (n := 4) C dL_law_3 rfl rfl ?_
  obtain ⟨x_2, hx_2, hR⟩ := yf_b hR
  refine xr_callI (n := 7) (As := []) (rest := [.ref q_1]) C (kX6_init l D cy (x := q_1) hx_2) mX6_init u_86 u_87 rfl 1 [0] [] rfl (by decide +kernel) rfl rfl rfl rfl (Nat.le_of_ble_eq_true rfl) (Nat.le_of_ble_eq_true rfl) (Nat.le_of_ble_eq_true rfl) (Nat.le_of_ble_eq_true rfl) (Nat.le_of_ble_eq_true rfl) dL_law_4 rfl (fun v_3 u_4 hp_5 => ?_)
  obtain ⟨q_6, q_7, q_8, q_9, q_10, q_11, q_12, q_13, q_14, q_15, q_16, q_17, q_18, q_19, q_20, q_21, q_22, q_23, q_24, q_25, q_26, q_27, rfl, rfl⟩ := hp_5
  refine xr_perm C 23 [0, 1, 2, 3, 4, 5, 6, 7, 8, 9, 10, 11, 12, 13, 14, 15, 16, 17, 18, 19, 20, 21, 22] [] [[(q_1, .inr (8, [.ref q_6, .ref q_7, .ref q_8, .ref q_9, .ref q_10, .ref q_11]))], [(q_6, .inr (3, [.ref q_12, .ref q_13, .int 2, .int 2, .int 2, .int 0, .int 0]))], [(q_12, .inr (6, [.ref q_14]))], [(q_14, .inl (cy 1, 81, .inl (fun _ => 0)))], [(q_13, .inr (6, [.ref q_15]))], [(q_15, .inl (cy 1, 81, .inl (fun _ => 0)))], [(q_7, .inr (2, [.ref q_16, .ref q_17, .int 0, .int 0]))], [(q_16, .inr (6, [.ref q_18]))], [(q_18, .inl (cy 1, 81, .inl (fun _ => 0)))], [(q_17, .inr (6, [.ref q_19]))], [(q_19, .inl (cy 1, 81, .inl (fun _ => 0)))], [(q_8, .inr (5, [.ref q_20, .int 0, .int 0, .int 0]))], [(q_20, .inr (6, [.ref q_21]))], [(q_21, .inl (cy 1, 81, .inl (fun _ => 0)))], [(q_9, .inr (7, [.ref q_22, .ref q_23, .int 0, .int 0, .int 0, .int 0, .int 0, .int 0, .int 0, .int 0, .int 0]))], [(q_22, .inr (3, [.ref q_24, .ref q_25, .int 2, .int 2, .int 2, .int 0, .int 0]))], [(q_24, .inr (6, [.ref q_26]))], [(q_26, .inl (cy 1, 81, .inl (fun _ => 0)))], [(q_25, .inr (6, [.ref q_27]))], [(q_27, .inl (cy 1, 81, .inl (fun _ => 0)))], [(q_23, .inr (4, [.int 0, .int 0, .int 0, .int 0, .int 0, .int 0, .int 0, .int 0, .int 0, .int 0]))], [(q_10, .inr (4, [.int 0, .int 0, .int 0, .int 0, .int 0, .int 0, .int 0, .int 0, .int 0, .int 0]))], [(q_11, .inr (4, [.int 0, .int 0, .int 0, .int 0, .int 0, .int 0, .int 0, .int 0, .int 0, .int 0]))]] rfl (by decide +kernel) rfl ?_
  obtain ⟨z_28, rfl, rfl, rfl, rfl, rfl, rfl, rfl, rfl, rfl, rfl, rfl, rfl, rfl, rfl, rfl, rfl, rfl, rfl, rfl, rfl, rfl, rfl⟩ : ∃ z_28 : Nat → Nat, z_28 0 = q_6 ∧ z_28 1 = q_7 ∧ z_28 2 = q_8 ∧ z_28 3 = q_9 ∧ z_28 4 = q_10 ∧ z_28 5 = q_11 ∧ z_28 6 = q_12 ∧ z_28 7 = q_13 ∧ z_28 8 = q_14 ∧ z_28 9 = q_15 ∧ z_28 10 = q_16 ∧ z_28 11 = q_17 ∧ z_28 12 = q_18 ∧ z_28 13 = q_19 ∧ z_28 14 = q_20 ∧ z_28 15 = q_21 ∧ z_28 16 = q_22 ∧ z_28 17 = q_23 ∧ z_28 18 = q_24 ∧ z_28 19 = q_25 ∧ z_28 20 = q_26 ∧ z_28 21 = q_27 := ⟨fun i => match i with | 0 => q_6 | 1 => q_7 | 2 => q_8 | 3 => q_9 | 4 => q_10 | 5 => q_11 | 6 => q_12 | 7 => q_13 | 8 => q_14 | 9 => q_15 | 10 => q_16 | 11 => q_17 | 12 => q_18 | 13 => q_19 | 14 => q_20 | 15 => q_21 | 16 => q_22 | 17 => q_23 | 18 => q_24 | 19 => q_25 | 20 => q_26 | 21 => q_27 | _ => 0, rfl, rfl, rfl, rfl, rfl, rfl, rfl, rfl, rfl, rfl, rfl, rfl, rfl, rfl, rfl, rfl, rfl, rfl, rfl, rfl, rfl, rfl⟩
  refine xr_perm C 23 [0, 1, 2, 3, 4, 5, 6, 7, 8, 9, 10, 11, 12, 13, 14, 15, 16, 17, 18, 19, 20, 21, 22] [] [[(q_1, .inr (8, [.ref (z_28 0), .ref (z_28 1), .ref (z_28 2), .ref (z_28 3), .ref (z_28 4), .ref (z_28 5)]))], [((z_28 0), .inr (3, [.ref (z_28 6), .ref (z_28 7), .int 2, .int 2, .int 2, .int 0, .int 0]))], [((z_28 6), .inr (6, [.ref (z_28 8)]))], [((z_28 8), .inl (cy 1, 81, .inl (fun _ => 0)))], [((z_28 7), .inr (6, [.ref (z_28 9)]))], [((z_28 9), .inl (cy 1, 81, .inl (fun _ => 0)))], [((z_28 1), .inr (2, [.ref (z_28 10), .ref (z_28 11), .int 0, .int 0]))], [((z_28 10), .inr (6, [.ref (z_28 12)]))], [((z_28 12), .inl (cy 1, 81, .inl (fun _ => 0)))], [((z_28 11), .inr (6, [.ref (z_28 13)]))], [((z_28 13), .inl (cy 1, 81, .inl (fun _ => 0)))], [((z_28 2), .inr (5, [.ref (z_28 14), .int 0, .int 0, .int 0]))], [((z_28 14), .inr (6, [.ref (z_28 15)]))], [((z_28 15), .inl (cy 1, 81, .inl (fun _ => 0)))], [((z_28 3), .inr (7, [.ref (z_28 16), .ref (z_28 17), .int 0, .int 0, .int 0, .int 0, .int 0, .int 0, .int 0, .int 0, .int 0]))], [((z_28 16), .inr (3, [.ref (z_28 18), .ref (z_28 19), .int 2, .int 2, .int 2, .int 0, .int 0]))], [((z_28 18), .inr (6, [.ref (z_28 20)]))], [((z_28 20), .inl (cy 1, 81, .inl (fun _ => 0)))], [((z_28 19), .inr (6, [.ref (z_28 21)]))], [((z_28 21), .inl (cy 1, 81, .inl (fun _ => 0)))], [((z_28 17), .inr (4, [.int 0, .int 0, .int 0, .int 0, .int 0, .int 0, .int 0, .int 0, .int 0, .int 0]))], [((z_28 4), .inr (4, [.int 0, .int 0, .int 0, .int 0, .int 0, .int 0, .int 0, .int 0, .int 0, .int 0]))], [((z_28 5), .inr (4, [.int 0, .int 0, .int 0, .int 0, .int 0, .int 0, .int 0, .int 0, .int 0, .int 0]))]] rfl (by decide +kernel) rfl ?_
  refine xr_pack (CWL q_1 z_28 cy CN0 CT0) [] rfl ?_
  refine xr_eq (bs' := [CW q_1 z_28 cy CN0 CT0]) rfl ?_
  refine xr_astore_n (n := 8) C [(1, .ref q_1), (0, .ref b)] dL_law_7 (by decide) rfl rfl ?_
  refine xr_new (n := 11) (ci := 11) C tyX9 tyX9_ok in_X9 u_1188 u_1189 u_64 rfl [.int 0, .null, .null, .null, .null, .null, .int 0, .int 0, .long 0, .null, .int 0, .int 0, .int 0, .int 0, .null, .int 0, .null] (by decide) (Nat.le_of_ble_eq_true rfl) (Nat.le_of_ble_eq_true rfl) dL_law_8 rfl (fun q_29 => ?_)
  refine xr_eq (bs' := [CW q_1 z_28 cy CN0 CT0, [(q_29, .inr (11, [.int 0, .null, .null, .null, .null, .null, .int 0, .int 0, .long 0, .null, .int 0, .int 0, .int 0, .int 0, .null, .int 0, .null]))]]) rfl ?_
  refine xr_dup (n := 12) C dL_law_11 rfl rfl ?_
  obtain ⟨x_30, hx_30, hR⟩ := yf_b hR
  obtain rfl := iX9_init hx_30
  refine xr_callI (n := 15) (As := []) (rest := [.ref q_29]) C (kX9_init l D cy (g := q_29) hx_30) mX9_init u_1190 u_1191 rfl 2 [1] [0] rfl (by decide +kernel) rfl rfl rfl rfl (Nat.le_of_ble_eq_true rfl) (Nat.le_of_ble_eq_true rfl) (Nat.le_of_ble_eq_true rfl) (Nat.le_of_ble_eq_true rfl) (Nat.le_of_ble_eq_true rfl) dL_law_12 rfl (fun v_31 u_32 hp_33 => ?_)
  obtain ⟨q_34, q_35, q_36, q_37, q_38, q_39, q_40, q_41, q_42, q_43, q_44, q_45, q_46, q_47, q_48, q_49, q_50, rfl, rfl⟩ := hp_33
  refine xr_perm C 19 [18, 0, 1, 2, 3, 4, 5, 6, 7, 8, 9, 10, 11, 12, 13, 14, 15, 16, 17] [] [CW q_1 z_28 cy CN0 CT0, [(q_29, .inr (11, [.int rX9_init.1, .ref q_34, .ref q_35, .ref q_36, .ref q_37, .ref q_38, .int rX9_init.2.1, .int rX9_init.2.2.1, .long rX9_init.2.2.2.1, .null, .int rX9_init.2.2.2.2.1, .int rX9_init.2.2.2.2.2.1, .int rX9_init.2.2.2.2.2.2.1, .int rX9_init.2.2.2.2.2.2.2.1, .ref q_39, .int rX9_init.2.2.2.2.2.2.2.2.1, .ref q_40]))], [(q_34, .inr (10, [.int rX9_init.2.2.2.2.2.2.2.2.2.1, .int rX9_init.2.2.2.2.2.2.2.2.2.2.1, .int rX9_init.2.2.2.2.2.2.2.2.2.2.2.1, .int rX9_init.2.2.2.2.2.2.2.2.2.2.2.2.1, .int rX9_init.2.2.2.2.2.2.2.2.2.2.2.2.2.1, .ref q_41, .ref q_42]))], [(q_41, .inl (cy 3, rX9_init.2.2.2.2.2.2.2.2.2.2.2.2.2.2.1, .inr (.inr (.inr (.inr (yad q_43))))))], xg_rows q_43 rX9_init.2.2.2.2.2.2.2.2.2.2.2.2.2.2.1 (cy 1) rX9_init.2.2.2.2.2.2.2.2.2.2.2.2.2.2.2.1 rX9_init.2.2.2.2.2.2.2.2.2.2.2.2.2.2.2.2.1, [(q_42, .inl (cy 3, rX9_init.2.2.2.2.2.2.2.2.2.2.2.2.2.2.2.2.2.1, .inr (.inr (.inr (.inr (yad q_44))))))], xg_rows q_44 rX9_init.2.2.2.2.2.2.2.2.2.2.2.2.2.2.2.2.2.1 (cy 1) rX9_init.2.2.2.2.2.2.2.2.2.2.2.2.2.2.2.2.2.2.1 rX9_init.2.2.2.2.2.2.2.2.2.2.2.2.2.2.2.2.2.2.2, [(q_35, .inl (cy 4, 5, .inr (.inr (.inr (.inr (yad q_45))))))], xg_rows q_45 5 (cy 2) 5 (fun _ _ => 0), [(q_36, .inl (cy 4, 5, .inr (.inr (.inr (.inr (yad q_46))))))], xg_rows q_46 5 (cy 2) 5 (fun _ _ => 0), [(q_37, .inl (cy 3, 5, .inr (.inr (.inr (.inr (yad q_47))))))], xg_rows q_47 5 (cy 1) 5 (fun _ _ => 0), [(q_38, .inl (cy 3, 5, .inr (.inr (.inr (.inr (yad q_48))))))], xg_rows q_48 5 (cy 1) 5 (fun _ _ => 0), [(q_39, .inl (cy 3, 0, .inr (.inr (.inr (.inr (yad q_49))))))], xg_rows q_49 0 (cy 1) 0 (fun _ _ => 0), [(q_40, .inl (cy 3, 0, .inr (.inr (.inr (.inr (yad q_50))))))], xg_rows q_50 0 (cy 1) 0 (fun _ _ => 0)] rfl (by decide +kernel) rfl ?_
  obtain ⟨z_51, rfl, rfl, rfl, rfl, rfl, rfl, rfl, rfl, rfl⟩ : ∃ z_51 : Nat → Nat, z_51 0 = q_34 ∧ z_51 1 = q_35 ∧ z_51 2 = q_36 ∧ z_51 3 = q_37 ∧ z_51 4 = q_38 ∧ z_51 6 = q_39 ∧ z_51 7 = q_40 ∧ z_51 8 = q_41 ∧ z_51 9 = q_42 := ⟨fun i => match i with | 0 => q_34 | 1 => q_35 | 2 => q_36 | 3 => q_37 | 4 => q_38 | 6 => q_39 | 7 => q_40 | 8 => q_41 | 9 => q_42 | _ => 0, rfl, rfl, rfl, rfl, rfl, rfl, rfl, rfl, rfl⟩
  obtain ⟨z_52, rfl, rfl, rfl, rfl, rfl, rfl, rfl, rfl⟩ : ∃ z_52 : Nat → Nat → Nat, z_52 0 = q_43 ∧ z_52 1 = q_44 ∧ z_52 2 = q_45 ∧ z_52 3 = q_46 ∧ z_52 4 = q_47 ∧ z_52 5 = q_48 ∧ z_52 6 = q_49 ∧ z_52 7 = q_50 := ⟨fun i => match i with | 0 => q_43 | 1 => q_44 | 2 => q_45 | 3 => q_46 | 4 => q_47 | 5 => q_48 | 6 => q_49 | 7 => q_50 | _ => fun _ => 0, rfl, rfl, rfl, rfl, rfl, rfl, rfl, rfl⟩
  refine xr_perm C 19 [1, 2, 3, 4, 5, 6, 7, 8, 9, 10, 11, 12, 13, 14, 15, 16, 17, 18, 0] [] [[(q_29, .inr (11, [.int rX9_init.1, .ref (z_51 0), .ref (z_51 1), .ref (z_51 2), .ref (z_51 3), .ref (z_51 4), .int rX9_init.2.1, .int rX9_init.2.2.1, .long rX9_init.2.2.2.1, .null, .int rX9_init.2.2.2.2.1, .int rX9_init.2.2.2.2.2.1, .int rX9_init.2.2.2.2.2.2.1, .int rX9_init.2.2.2.2.2.2.2.1, .ref (z_51 6), .int rX9_init.2.2.2.2.2.2.2.2.1, .ref (z_51 7)]))], [((z_51 0), .inr (10, [.int rX9_init.2.2.2.2.2.2.2.2.2.1, .int rX9_init.2.2.2.2.2.2.2.2.2.2.1, .int rX9_init.2.2.2.2.2.2.2.2.2.2.2.1, .int rX9_init.2.2.2.2.2.2.2.2.2.2.2.2.1, .int rX9_init.2.2.2.2.2.2.2.2.2.2.2.2.2.1, .ref (z_51 8), .ref (z_51 9)]))], [((z_51 8), .inl (cy 3, rX9_init.2.2.2.2.2.2.2.2.2.2.2.2.2.2.1, .inr (.inr (.inr (.inr (yad (z_52 0)))))))], xg_rows (z_52 0) rX9_init.2.2.2.2.2.2.2.2.2.2.2.2.2.2.1 (cy 1) rX9_init.2.2.2.2.2.2.2.2.2.2.2.2.2.2.2.1 rX9_init.2.2.2.2.2.2.2.2.2.2.2.2.2.2.2.2.1, [((z_51 9), .inl (cy 3, rX9_init.2.2.2.2.2.2.2.2.2.2.2.2.2.2.2.2.2.1, .inr (.inr (.inr (.inr (yad (z_52 1)))))))], xg_rows (z_52 1) rX9_init.2.2.2.2.2.2.2.2.2.2.2.2.2.2.2.2.2.1 (cy 1) rX9_init.2.2.2.2.2.2.2.2.2.2.2.2.2.2.2.2.2.2.1 rX9_init.2.2.2.2.2.2.2.2.2.2.2.2.2.2.2.2.2.2.2, [((z_51 1), .inl (cy 4, 5, .inr (.inr (.inr (.inr (yad (z_52 2)))))))], xg_rows (z_52 2) 5 (cy 2) 5 (fun _ _ => 0), [((z_51 2), .inl (cy 4, 5, .inr (.inr (.inr (.inr (yad (z_52 3)))))))], xg_rows (z_52 3) 5 (cy 2) 5 (fun _ _ => 0), [((z_51 3), .inl (cy 3, 5, .inr (.inr (.inr (.inr (yad (z_52 4)))))))], xg_rows (z_52 4) 5 (cy 1) 5 (fun _ _ => 0), [((z_51 4), .inl (cy 3, 5, .inr (.inr (.inr (.inr (yad (z_52 5)))))))], xg_rows (z_52 5) 5 (cy 1) 5 (fun _ _ => 0), [((z_51 6), .inl (cy 3, 0, .inr (.inr (.inr (.inr (yad (z_52 6)))))))], xg_rows (z_52 6) 0 (cy 1) 0 (fun _ _ => 0), [((z_51 7), .inl (cy 3, 0, .inr (.inr (.inr (.inr (yad (z_52 7)))))))], xg_rows (z_52 7) 0 (cy 1) 0 (fun _ _ => 0), CW q_1 z_28 cy CN0 CT0] rfl (by decide +kernel) rfl ?_
  refine xr_pack (MWL q_29 z_51 z_52 cy 0 MN0 ML0 MK0 MG0) [CW q_1 z_28 cy CN0 CT0] rfl ?_
  refine xr_eq (bs' := [MW q_29 z_51 z_52 cy 0 MN0 ML0 MK0 MG0, CW q_1 z_28 cy CN0 CT0]) rfl ?_
  refine xr_astore_n (n := 16) C [(2, .ref q_29), (1, .ref q_1), (0, .ref b)] dL_law_15 (by decide) rfl rfl ?_
  refine xr_new (n := 19) (ci := 9) C tyX7 tyX7_ok in_X7 u_550 u_551 u_66 rfl [.long 0, .null] (by decide) (Nat.le_of_ble_eq_true rfl) (Nat.le_of_ble_eq_true rfl) dL_law_16 rfl (fun q_53 => ?_)
  refine xr_eq (bs' := [MW q_29 z_51 z_52 cy 0 MN0 ML0 MK0 MG0, CW q_1 z_28 cy CN0 CT0, [(q_53, .inr (9, [.long 0, .null]))]]) rfl ?_
  refine xr_dup (n := 20) C dL_law_19 rfl rfl ?_
  obtain ⟨x_54, hx_54, hR⟩ := yf_b hR
  refine xr_callINp (n := 23) (As := []) (rest := [.ref q_53]) C (kX7_init l D cy (vo := q_53) hx_54) mX7_init (host := RL) (List.mem_of_getElem? (i := 45) rfl) u_553 rfl 3 [2] [0, 1] rfl (by decide +kernel) rfl rfl rfl rfl (Nat.le_of_ble_eq_true rfl) (Nat.le_of_ble_eq_true rfl) (Nat.le_of_ble_eq_true rfl) (Nat.le_of_ble_eq_true rfl) (Nat.le_of_ble_eq_true rfl) dL_law_20 rfl (fun _ _ hp => hp.2) (fun v_55 hp_57 => ?_)
  obtain ⟨rfl, -⟩ := hp_57
  refine xr_astore_n (n := 24) C [(3, .ref q_53), (2, .ref q_29), (1, .ref q_1), (0, .ref b)] dL_law_23 (by decide) rfl rfl ?_
  refine xr_iconst (n := 25) (v := 0) C dL_law_24 rfl rfl ?_
  refine xr_istore (n := 27) C [(4, .int 0), (3, .ref q_53), (2, .ref q_29), (1, .ref q_1), (0, .ref b)] dL_law_25 (by decide) rfl rfl ?_
  refine xr_lv (lv' := [(0, .ref b), (1, .ref q_1), (2, .ref q_29), (3, .ref q_53), (4, .int 0)]) [4, 3, 2, 1, 0] rfl ?_
  obtain ⟨b_58, hb_58, hR⟩ := yf_b hR
  have K_58 : ∀ z_58, b_58 = .inl z_58 → ∀ a0_58 : Nat → Nat, ∀ a1_58 : Nat → Nat → Nat, ∀ a2_58 : Value, X p l e room_1 s m args below meth c D A H0 7 Q [MW q_29 a0_58 a1_58 cy z_58.2.1 z_58.2.2.1 z_58.2.2.2.1 z_58.2.2.2.2.1 z_58.2.2.2.2.2.1, CW q_1 z_28 cy z_58.2.2.2.2.2.2.1 z_58.2.2.2.2.2.2.2.1, [(q_53, .inr (9, [.long z_58.2.2.2.2.2.2.2.2.1, a2_58]))]] z_58.2.2.2.2.2.2.2.2.2.1 z_58.2.2.2.2.2.2.2.2.2.2 [] 894 [] := by
    intro z_58 e_58; subst e_58; replace hR := ybr_l hR
    intro a0_58 a1_58 a2_58
    obtain ⟨g_59, hR⟩ := yf_g hR
    refine xr_iconst (n := 895) (v := 1) C dL_law_894 rfl rfl ?_
    obtain rfl := Option.some.inj hR
    exact ret 1 rfl g_59.1 g_59.2 dL_law_895
  refine y_loop (P := fun (s_58 : Int32 × Nat × (Nat → Int32) × Int64 × (Nat → Nat) × (Nat → Nat → Nat → Int32) × (Nat → Int32) × (Nat → Nat → Int32) × Int64 × Nat × Nat) => ∀ a0_58 : Nat → Nat, ∀ a1_58 : Nat → Nat → Nat, ∀ a2_58 : Value, X p l e room_1 s m args below meth c D A H0 7 Q [MW q_29 a0_58 a1_58 cy s_58.2.1 s_58.2.2.1 s_58.2.2.2.1 s_58.2.2.2.2.1 s_58.2.2.2.2.2.1, CW q_1 z_28 cy s_58.2.2.2.2.2.2.1 s_58.2.2.2.2.2.2.2.1, [(q_53, .inr (9, [.long s_58.2.2.2.2.2.2.2.2.1, a2_58]))]] s_58.2.2.2.2.2.2.2.2.2.1 s_58.2.2.2.2.2.2.2.2.2.2 [(0, .ref b), (1, .ref q_1), (2, .ref q_29), (3, .ref q_53), (4, .int s_58.1)] 27 []) ?_ _ (0, 0, MN0, ML0, MK0, MG0, CN0, CT0, 0, 0 + 1 + 22 + 1 + 47 + 1, 0 + 6 + 637 + 17 + 307 + 2) hb_58 z_51 z_52 .null
  intro s_58 o_58 ho_58 hk_58 hx_58 a0_58 a1_58 a2_58
  obtain ⟨g_60, ho_58⟩ := yf_g ho_58
  refine xr_iload (n := 29) (j := 4) C dL_law_27 rfl rfl ?_
  refine xr_aload_n (n := 30) (j := 0) C dL_law_29 rfl rfl ?_
  refine xr_slen (n := 31) C hX hbl hbA dL_law_30 rfl ?_
  refine xr_iconst (n := 32) (v := 4) C dL_law_31 rfl rfl ?_
  refine xr_isub (n := 33) C dL_law_32 rfl ?_
  refine xr_icmp_gt (tgt := 894) (n := 36) C dL_law_33 rfl rfl (fun c_61 => ?_) (fun c_61 => ?_)
  · replace ho_58 := yf_t c_61 ho_58
    refine xr_lv (lv' := []) [] rfl ?_
    have e_62 := hx_58 _ (Option.some.inj ho_58).symm
    exact K_58 (s_58.1, s_58.2.1, s_58.2.2.1, s_58.2.2.2.1, s_58.2.2.2.2.1, s_58.2.2.2.2.2.1, s_58.2.2.2.2.2.2.1, s_58.2.2.2.2.2.2.2.1, s_58.2.2.2.2.2.2.2.2.1, s_58.2.2.2.2.2.2.2.2.2.1, s_58.2.2.2.2.2.2.2.2.2.2) e_62.symm a0_58 a1_58 a2_58
  · replace ho_58 := yf_f c_61 ho_58
    refine xr_aload_n (n := 37) (j := 0) C dL_law_36 rfl rfl ?_
    refine xr_iload (n := 39) (j := 4) C dL_law_37 rfl rfl ?_
    obtain ⟨g_63, ho_58⟩ := yf_g ho_58
    refine xr_sld (n := 40) C hX hbl hbA g_63 dL_law_39 rfl ?_
    refine xr_bipush (n := 42) (v := 31) C dL_law_40 rfl rfl ?_
    refine xr_iand (n := 43) C dL_law_42 rfl ?_
    by_cases c_64 : ((xs s_58.1.toNatClampNeg) &&& 31) = 0
    · replace ho_58 := yf_t c_64 ho_58
      refine xr_tableIn (off := 97) (tgt := 140) C dL_law_43 (by rw [c_64]; decide) (by rw [c_64]; decide) (by rw [c_64]; decide) rfl ?_
      refine xr_aload_n (n := 141) (j := 1) C dL_law_140 rfl rfl ?_
      refine xr_aload_n (n := 142) (j := 0) C dL_law_141 rfl rfl ?_
      refine xr_iload (n := 144) (j := 4) C dL_law_142 rfl rfl ?_
      refine xr_iconst (n := 145) (v := 1) C dL_law_144 rfl rfl ?_
      refine xr_iadd (n := 146) C dL_law_145 rfl ?_
      obtain ⟨g_65, ho_58⟩ := yf_g ho_58
      refine xr_sld (n := 147) C hX hbl hbA g_65 dL_law_146 rfl ?_
      refine xr_aload_n (n := 148) (j := 0) C dL_law_147 rfl rfl ?_
      refine xr_iload (n := 150) (j := 4) C dL_law_148 rfl rfl ?_
      refine xr_iconst (n := 151) (v := 2) C dL_law_150 rfl rfl ?_
      refine xr_iadd (n := 152) C dL_law_151 rfl ?_
      obtain ⟨g_66, ho_58⟩ := yf_g ho_58
      refine xr_sld (n := 153) C hX hbl hbA g_66 dL_law_152 rfl ?_
      refine xr_aload_n (n := 154) (j := 0) C dL_law_153 rfl rfl ?_
      refine xr_iload (n := 156) (j := 4) C dL_law_154 rfl rfl ?_
      refine xr_iconst (n := 157) (v := 3) C dL_law_156 rfl rfl ?_
      refine xr_iadd (n := 158) C dL_law_157 rfl ?_
      obtain ⟨g_67, ho_58⟩ := yf_g ho_58
      refine xr_sld (n := 159) C hX hbl hbA g_67 dL_law_158 rfl ?_
      refine xr_aload_n (n := 160) (j := 3) C dL_law_159 rfl rfl ?_
      obtain ⟨x_68, hx_68, ho_58⟩ := yf_b ho_58
      obtain ⟨g_69, ho_58⟩ := yf_g ho_58
      refine xr_callSW (n := 163) (As := [.ref q_1, .int (xs (s_58.1 + 1).toNatClampNeg), .int (xs (s_58.1 + 2).toNatClampNeg), .int (xs (s_58.1 + 3).toNatClampNeg), .ref q_53]) (rest := []) C (kgL_shape l D cy hl0 (x := q_1) (a := z_28) (o := q_53) (os := a2_58) (n := s_58.2.2.2.2.2.2.1) (t := s_58.2.2.2.2.2.2.2.1) (on := s_58.2.2.2.2.2.2.2.2.1) (i1 := xs (s_58.1 + 1).toNatClampNeg) (i2 := xs (s_58.1 + 2).toNatClampNeg) (i3 := xs (s_58.1 + 3).toNatClampNeg) hx_68) mL_shape u_563 u_564 3 [1, 2] [0] rfl (by decide +kernel) rfl rfl rfl rfl (Nat.le_of_ble_eq_true rfl) (Nat.le_of_ble_eq_true rfl) (Nat.le_of_ble_eq_true rfl) g_69.1 g_69.2 dL_law_160 rfl (fun v_70 u_71 hp_72 => ?_)
      obtain ⟨q_73, rfl, rfl⟩ := hp_72
      refine xr_perm C 3 [2, 0, 1] [] [MW q_29 a0_58 a1_58 cy s_58.2.1 s_58.2.2.1 s_58.2.2.2.1 s_58.2.2.2.2.1 s_58.2.2.2.2.2.1, CW q_1 z_28 cy x_68.2.1 x_68.2.2.1, [(q_53, .inr (9, [.long x_68.2.2.2, q_73]))]] rfl (by decide +kernel) rfl ?_
      refine xr_st (st' := [.int x_68.1]) rfl ?_
      refine xr_istore (n := 165) C [(5, .int x_68.1), (0, .ref b), (1, .ref q_1), (2, .ref q_29), (3, .ref q_53), (4, .int s_58.1)] dL_law_163 (by decide) rfl rfl ?_
      refine xr_aload_n (n := 166) (j := 3) C dL_law_165 rfl rfl ?_
      refine xr_aload_n (n := 167) (j := 1) C dL_law_166 rfl rfl ?_
      refine xr_iload (n := 169) (j := 5) C dL_law_167 rfl rfl ?_
      refine xr_iconst (n := 170) (v := 1) C dL_law_169 rfl rfl ?_
      refine xr_iadd (n := 171) C dL_law_170 rfl ?_
      obtain ⟨g_74, ho_58⟩ := yf_g ho_58
      refine xr_sld (n := 172) C hX hbl hbA g_74 dL_law_171 rfl ?_
      refine xr_aload_n (n := 173) (j := 1) C dL_law_172 rfl rfl ?_
      refine xr_iload (n := 175) (j := 5) C dL_law_173 rfl rfl ?_
      refine xr_iconst (n := 176) (v := 2) C dL_law_175 rfl rfl ?_
      refine xr_iadd (n := 177) C dL_law_176 rfl ?_
      obtain ⟨g_75, ho_58⟩ := yf_g ho_58
      refine xr_sld (n := 178) C hX hbl hbA g_75 dL_law_177 rfl ?_
      refine xr_aload_n (n := 179) (j := 1) C dL_law_178 rfl rfl ?_
      refine xr_iload (n := 181) (j := 5) C dL_law_179 rfl rfl ?_
      refine xr_iconst (n := 182) (v := 3) C dL_law_181 rfl rfl ?_
      refine xr_iadd (n := 183) C dL_law_182 rfl ?_
      obtain ⟨g_76, ho_58⟩ := yf_g ho_58
      refine xr_sld (n := 184) C hX hbl hbA g_76 dL_law_183 rfl ?_
      obtain ⟨x_77, hx_77, ho_58⟩ := yf_b ho_58
      obtain ⟨g_78, ho_58⟩ := yf_g ho_58
      refine xr_callVP (n := 187) (As := [.int (xs (s_58.1 + 1).toNatClampNeg), .int (xs (s_58.1 + 2).toNatClampNeg), .int (xs (s_58.1 + 3).toNatClampNeg)]) (rest := []) C (kgX9w_shape l D cy (g := q_29) (a := a0_58) (ad := a1_58) (sh := s_58.2.1) (n := s_58.2.2.1) (L := s_58.2.2.2.1) (k := s_58.2.2.2.2.1) (G := s_58.2.2.2.2.2.1) (i1 := xs (s_58.1 + 1).toNatClampNeg) (i2 := xs (s_58.1 + 2).toNatClampNeg) (i3 := xs (s_58.1 + 3).toNatClampNeg) hx_77) mX9_shape u_1294 u_1295 u_1296 0 rfl (MW_head _ _ _ _ _ _ _ _ _) rfl 3 [0] [1, 2] rfl (by decide +kernel) rfl rfl rfl rfl (Nat.le_of_ble_eq_true rfl) (Nat.le_of_ble_eq_true rfl) (Nat.le_of_ble_eq_true rfl) g_78.1 g_78.2 dL_law_184 rfl (fun v_79 u_80 hp_81 => ?_)
      obtain ⟨q_82, q_83, rfl, rfl⟩ := hp_81
      refine xr_perm C 3 [0, 1, 2] [] [MW q_29 q_82 q_83 cy x_77.2.1 x_77.2.2.1 x_77.2.2.2.1 x_77.2.2.2.2.1 x_77.2.2.2.2.2, CW q_1 z_28 cy x_68.2.1 x_68.2.2.1, [(q_53, .inr (9, [.long x_68.2.2.2, q_73]))]] rfl (by decide +kernel) rfl ?_
      refine xr_st (st' := [.int x_77.1]) rfl ?_
      refine xr_istore (n := 189) C [(6, .int x_77.1), (5, .int x_68.1), (0, .ref b), (1, .ref q_1), (2, .ref q_29), (3, .ref q_53), (4, .int s_58.1)] dL_law_187 (by decide) rfl rfl ?_
      refine xr_goto (tgt := 888) C dL_law_189 rfl ?_
      refine xr_iinc (j := 6) (v := s_58.1 + 4) (n := 891) C [(4, .int (s_58.1 + 4)), (6, .int x_77.1), (5, .int x_68.1), (0, .ref b), (1, .ref q_1), (2, .ref q_29), (3, .ref q_53)] dL_law_888 rfl rfl (by decide) rfl rfl ?_
      refine xr_goto (tgt := 27) C dL_law_891 rfl ?_
      refine xr_lv (lv' := [(0, .ref b), (1, .ref q_1), (2, .ref q_29), (3, .ref q_53), (4, .int (s_58.1 + 4))]) [3, 4, 5, 6, 0] rfl ?_
      exact hk_58 (s_58.1 + 4, x_77.2.1, x_77.2.2.1, x_77.2.2.2.1, x_77.2.2.2.2.1, x_77.2.2.2.2.2, x_68.2.1, x_68.2.2.1, x_68.2.2.2, s_58.2.2.2.2.2.2.2.2.2.1 + 1 + 20, s_58.2.2.2.2.2.2.2.2.2.2 + 6 + 180) (Option.some.inj ho_58).symm q_82 q_83 q_73
    replace ho_58 := yf_f c_64 ho_58
    by_cases c_84 : ((xs s_58.1.toNatClampNeg) &&& 31) = 1
    · replace ho_58 := yf_t c_84 ho_58
      refine xr_tableIn (off := 149) (tgt := 192) C dL_law_43 (by rw [c_84]; decide) (by rw [c_84]; decide) (by rw [c_84]; decide) rfl ?_
      refine xr_aload_n (n := 193) (j := 1) C dL_law_192 rfl rfl ?_
      refine xr_aload_n (n := 194) (j := 0) C dL_law_193 rfl rfl ?_
      refine xr_iload (n := 196) (j := 4) C dL_law_194 rfl rfl ?_
      refine xr_iconst (n := 197) (v := 1) C dL_law_196 rfl rfl ?_
      refine xr_iadd (n := 198) C dL_law_197 rfl ?_
      obtain ⟨g_85, ho_58⟩ := yf_g ho_58
      refine xr_sld (n := 199) C hX hbl hbA g_85 dL_law_198 rfl ?_
      refine xr_aload_n (n := 200) (j := 0) C dL_law_199 rfl rfl ?_
      refine xr_iload (n := 202) (j := 4) C dL_law_200 rfl rfl ?_
      refine xr_iconst (n := 203) (v := 2) C dL_law_202 rfl rfl ?_
      refine xr_iadd (n := 204) C dL_law_203 rfl ?_
      obtain ⟨g_86, ho_58⟩ := yf_g ho_58
      refine xr_sld (n := 205) C hX hbl hbA g_86 dL_law_204 rfl ?_
      refine xr_aload_n (n := 206) (j := 0) C dL_law_205 rfl rfl ?_
      refine xr_iload (n := 208) (j := 4) C dL_law_206 rfl rfl ?_
      refine xr_iconst (n := 209) (v := 3) C dL_law_208 rfl rfl ?_
      refine xr_iadd (n := 210) C dL_law_209 rfl ?_
      obtain ⟨g_87, ho_58⟩ := yf_g ho_58
      refine xr_sld (n := 211) C hX hbl hbA g_87 dL_law_210 rfl ?_
      refine xr_aload_n (n := 212) (j := 3) C dL_law_211 rfl rfl ?_
      obtain ⟨x_88, hx_88, ho_58⟩ := yf_b ho_58
      obtain ⟨g_89, ho_58⟩ := yf_g ho_58
      refine xr_callSW (n := 215) (As := [.ref q_1, .int (xs (s_58.1 + 1).toNatClampNeg), .int (xs (s_58.1 + 2).toNatClampNeg), .int (xs (s_58.1 + 3).toNatClampNeg), .ref q_53]) (rest := []) C (kgL_left l D cy hl0 (x := q_1) (a := z_28) (o := q_53) (os := a2_58) (n := s_58.2.2.2.2.2.2.1) (t := s_58.2.2.2.2.2.2.2.1) (on := s_58.2.2.2.2.2.2.2.2.1) (i1 := xs (s_58.1 + 1).toNatClampNeg) (i2 := xs (s_58.1 + 2).toNatClampNeg) (i3 := xs (s_58.1 + 3).toNatClampNeg) hx_88) mL_left u_651 u_652 3 [1, 2] [0] rfl (by decide +kernel) rfl rfl rfl rfl (Nat.le_of_ble_eq_true rfl) (Nat.le_of_ble_eq_true rfl) (Nat.le_of_ble_eq_true rfl) g_89.1 g_89.2 dL_law_212 rfl (fun v_90 u_91 hp_92 => ?_)
      obtain ⟨q_93, rfl, rfl⟩ := hp_92
      refine xr_perm C 3 [2, 0, 1] [] [MW q_29 a0_58 a1_58 cy s_58.2.1 s_58.2.2.1 s_58.2.2.2.1 s_58.2.2.2.2.1 s_58.2.2.2.2.2.1, CW q_1 z_28 cy x_88.2.1 x_88.2.2.1, [(q_53, .inr (9, [.long x_88.2.2.2, q_93]))]] rfl (by decide +kernel) rfl ?_
      refine xr_st (st' := [.int x_88.1]) rfl ?_
      refine xr_istore (n := 217) C [(5, .int x_88.1), (0, .ref b), (1, .ref q_1), (2, .ref q_29), (3, .ref q_53), (4, .int s_58.1)] dL_law_215 (by decide) rfl rfl ?_
      refine xr_aload_n (n := 218) (j := 3) C dL_law_217 rfl rfl ?_
      refine xr_aload_n (n := 219) (j := 1) C dL_law_218 rfl rfl ?_
      refine xr_iload (n := 221) (j := 5) C dL_law_219 rfl rfl ?_
      refine xr_iconst (n := 222) (v := 1) C dL_law_221 rfl rfl ?_
      refine xr_iadd (n := 223) C dL_law_222 rfl ?_
      obtain ⟨g_94, ho_58⟩ := yf_g ho_58
      refine xr_sld (n := 224) C hX hbl hbA g_94 dL_law_223 rfl ?_
      refine xr_aload_n (n := 225) (j := 1) C dL_law_224 rfl rfl ?_
      refine xr_iload (n := 227) (j := 5) C dL_law_225 rfl rfl ?_
      refine xr_iconst (n := 228) (v := 2) C dL_law_227 rfl rfl ?_
      refine xr_iadd (n := 229) C dL_law_228 rfl ?_
      obtain ⟨g_95, ho_58⟩ := yf_g ho_58
      refine xr_sld (n := 230) C hX hbl hbA g_95 dL_law_229 rfl ?_
      refine xr_aload_n (n := 231) (j := 1) C dL_law_230 rfl rfl ?_
      refine xr_iload (n := 233) (j := 5) C dL_law_231 rfl rfl ?_
      refine xr_iconst (n := 234) (v := 3) C dL_law_233 rfl rfl ?_
      refine xr_iadd (n := 235) C dL_law_234 rfl ?_
      obtain ⟨g_96, ho_58⟩ := yf_g ho_58
      refine xr_sld (n := 236) C hX hbl hbA g_96 dL_law_235 rfl ?_
      obtain ⟨x_97, hx_97, ho_58⟩ := yf_b ho_58
      refine xr_callVP (n := 239) (As := [.int (xs (s_58.1 + 1).toNatClampNeg), .int (xs (s_58.1 + 2).toNatClampNeg), .int (xs (s_58.1 + 3).toNatClampNeg)]) (rest := []) C (kgX9w_left l D cy (g := q_29) (a := a0_58) (ad := a1_58) (sh := s_58.2.1) (n := s_58.2.2.1) (L := s_58.2.2.2.1) (k := s_58.2.2.2.2.1) (G := s_58.2.2.2.2.2.1) (i1 := xs (s_58.1 + 1).toNatClampNeg) (i2 := xs (s_58.1 + 2).toNatClampNeg) (i3 := xs (s_58.1 + 3).toNatClampNeg) hx_97) mX9_left u_1315 u_1316 u_1317 0 rfl (MW_head _ _ _ _ _ _ _ _ _) rfl 3 [0] [1, 2] rfl (by decide +kernel) rfl rfl rfl rfl (Nat.le_of_ble_eq_true rfl) (Nat.le_of_ble_eq_true rfl) (Nat.le_of_ble_eq_true rfl) g_89.1 g_89.2 dL_law_236 rfl (fun v_98 u_99 hp_100 => ?_)
      obtain ⟨q_101, q_102, rfl, rfl⟩ := hp_100
      refine xr_perm C 3 [0, 1, 2] [] [MW q_29 q_101 q_102 cy x_97.2.1 x_97.2.2.1 x_97.2.2.2.1 x_97.2.2.2.2.1 x_97.2.2.2.2.2, CW q_1 z_28 cy x_88.2.1 x_88.2.2.1, [(q_53, .inr (9, [.long x_88.2.2.2, q_93]))]] rfl (by decide +kernel) rfl ?_
      refine xr_st (st' := [.int x_97.1]) rfl ?_
      refine xr_istore (n := 241) C [(6, .int x_97.1), (5, .int x_88.1), (0, .ref b), (1, .ref q_1), (2, .ref q_29), (3, .ref q_53), (4, .int s_58.1)] dL_law_239 (by decide) rfl rfl ?_
      refine xr_goto (tgt := 888) C dL_law_241 rfl ?_
      refine xr_iinc (j := 6) (v := s_58.1 + 4) (n := 891) C [(4, .int (s_58.1 + 4)), (6, .int x_97.1), (5, .int x_88.1), (0, .ref b), (1, .ref q_1), (2, .ref q_29), (3, .ref q_53)] dL_law_888 rfl rfl (by decide) rfl rfl ?_
      refine xr_goto (tgt := 27) C dL_law_891 rfl ?_
      refine xr_lv (lv' := [(0, .ref b), (1, .ref q_1), (2, .ref q_29), (3, .ref q_53), (4, .int (s_58.1 + 4))]) [3, 4, 5, 6, 0] rfl ?_
      exact hk_58 (s_58.1 + 4, x_97.2.1, x_97.2.2.1, x_97.2.2.2.1, x_97.2.2.2.2.1, x_97.2.2.2.2.2, x_88.2.1, x_88.2.2.1, x_88.2.2.2, s_58.2.2.2.2.2.2.2.2.2.1 + 1, s_58.2.2.2.2.2.2.2.2.2.2 + 6) (Option.some.inj ho_58).symm q_101 q_102 q_93
    replace ho_58 := yf_f c_84 ho_58
    by_cases c_103 : ((xs s_58.1.toNatClampNeg) &&& 31) = 2
    · replace ho_58 := yf_t c_103 ho_58
      refine xr_tableIn (off := 201) (tgt := 244) C dL_law_43 (by rw [c_103]; decide) (by rw [c_103]; decide) (by rw [c_103]; decide) rfl ?_
      refine xr_aload_n (n := 245) (j := 1) C dL_law_244 rfl rfl ?_
      refine xr_aload_n (n := 246) (j := 0) C dL_law_245 rfl rfl ?_
      refine xr_iload (n := 248) (j := 4) C dL_law_246 rfl rfl ?_
      refine xr_iconst (n := 249) (v := 1) C dL_law_248 rfl rfl ?_
      refine xr_iadd (n := 250) C dL_law_249 rfl ?_
      obtain ⟨g_104, ho_58⟩ := yf_g ho_58
      refine xr_sld (n := 251) C hX hbl hbA g_104 dL_law_250 rfl ?_
      refine xr_aload_n (n := 252) (j := 0) C dL_law_251 rfl rfl ?_
      refine xr_iload (n := 254) (j := 4) C dL_law_252 rfl rfl ?_
      refine xr_iconst (n := 255) (v := 2) C dL_law_254 rfl rfl ?_
      refine xr_iadd (n := 256) C dL_law_255 rfl ?_
      obtain ⟨g_105, ho_58⟩ := yf_g ho_58
      refine xr_sld (n := 257) C hX hbl hbA g_105 dL_law_256 rfl ?_
      refine xr_aload_n (n := 258) (j := 0) C dL_law_257 rfl rfl ?_
      refine xr_iload (n := 260) (j := 4) C dL_law_258 rfl rfl ?_
      refine xr_iconst (n := 261) (v := 3) C dL_law_260 rfl rfl ?_
      refine xr_iadd (n := 262) C dL_law_261 rfl ?_
      obtain ⟨g_106, ho_58⟩ := yf_g ho_58
      refine xr_sld (n := 263) C hX hbl hbA g_106 dL_law_262 rfl ?_
      refine xr_aload_n (n := 264) (j := 3) C dL_law_263 rfl rfl ?_
      obtain ⟨x_107, hx_107, ho_58⟩ := yf_b ho_58
      obtain ⟨g_108, ho_58⟩ := yf_g ho_58
      refine xr_callSW (n := 267) (As := [.ref q_1, .int (xs (s_58.1 + 1).toNatClampNeg), .int (xs (s_58.1 + 2).toNatClampNeg), .int (xs (s_58.1 + 3).toNatClampNeg), .ref q_53]) (rest := []) C (kgL_top l D cy hl0 (x := q_1) (a := z_28) (o := q_53) (os := a2_58) (n := s_58.2.2.2.2.2.2.1) (t := s_58.2.2.2.2.2.2.2.1) (on := s_58.2.2.2.2.2.2.2.2.1) (i1 := xs (s_58.1 + 1).toNatClampNeg) (i2 := xs (s_58.1 + 2).toNatClampNeg) (i3 := xs (s_58.1 + 3).toNatClampNeg) hx_107) mL_top u_683 u_684 3 [1, 2] [0] rfl (by decide +kernel) rfl rfl rfl rfl (Nat.le_of_ble_eq_true rfl) (Nat.le_of_ble_eq_true rfl) (Nat.le_of_ble_eq_true rfl) g_108.1 g_108.2 dL_law_264 rfl (fun v_109 u_110 hp_111 => ?_)
      obtain ⟨q_112, rfl, rfl⟩ := hp_111
      refine xr_perm C 3 [2, 0, 1] [] [MW q_29 a0_58 a1_58 cy s_58.2.1 s_58.2.2.1 s_58.2.2.2.1 s_58.2.2.2.2.1 s_58.2.2.2.2.2.1, CW q_1 z_28 cy x_107.2.1 x_107.2.2.1, [(q_53, .inr (9, [.long x_107.2.2.2, q_112]))]] rfl (by decide +kernel) rfl ?_
      refine xr_st (st' := [.int x_107.1]) rfl ?_
      refine xr_istore (n := 269) C [(5, .int x_107.1), (0, .ref b), (1, .ref q_1), (2, .ref q_29), (3, .ref q_53), (4, .int s_58.1)] dL_law_267 (by decide) rfl rfl ?_
      refine xr_aload_n (n := 270) (j := 3) C dL_law_269 rfl rfl ?_
      refine xr_aload_n (n := 271) (j := 1) C dL_law_270 rfl rfl ?_
      refine xr_iload (n := 273) (j := 5) C dL_law_271 rfl rfl ?_
      refine xr_iconst (n := 274) (v := 1) C dL_law_273 rfl rfl ?_
      refine xr_iadd (n := 275) C dL_law_274 rfl ?_
      obtain ⟨g_113, ho_58⟩ := yf_g ho_58
      refine xr_sld (n := 276) C hX hbl hbA g_113 dL_law_275 rfl ?_
      refine xr_aload_n (n := 277) (j := 1) C dL_law_276 rfl rfl ?_
      refine xr_iload (n := 279) (j := 5) C dL_law_277 rfl rfl ?_
      refine xr_iconst (n := 280) (v := 2) C dL_law_279 rfl rfl ?_
      refine xr_iadd (n := 281) C dL_law_280 rfl ?_
      obtain ⟨g_114, ho_58⟩ := yf_g ho_58
      refine xr_sld (n := 282) C hX hbl hbA g_114 dL_law_281 rfl ?_
      refine xr_aload_n (n := 283) (j := 1) C dL_law_282 rfl rfl ?_
      refine xr_iload (n := 285) (j := 5) C dL_law_283 rfl rfl ?_
      refine xr_iconst (n := 286) (v := 3) C dL_law_285 rfl rfl ?_
      refine xr_iadd (n := 287) C dL_law_286 rfl ?_
      obtain ⟨g_115, ho_58⟩ := yf_g ho_58
      refine xr_sld (n := 288) C hX hbl hbA g_115 dL_law_287 rfl ?_
      obtain ⟨x_116, hx_116, ho_58⟩ := yf_b ho_58
      refine xr_callVP (n := 291) (As := [.int (xs (s_58.1 + 1).toNatClampNeg), .int (xs (s_58.1 + 2).toNatClampNeg), .int (xs (s_58.1 + 3).toNatClampNeg)]) (rest := []) C (kgX9w_top l D cy (g := q_29) (a := a0_58) (ad := a1_58) (sh := s_58.2.1) (n := s_58.2.2.1) (L := s_58.2.2.2.1) (k := s_58.2.2.2.2.1) (G := s_58.2.2.2.2.2.1) (i1 := xs (s_58.1 + 1).toNatClampNeg) (i2 := xs (s_58.1 + 2).toNatClampNeg) (i3 := xs (s_58.1 + 3).toNatClampNeg) hx_116) mX9_top u_1319 u_1320 u_1321 0 rfl (MW_head _ _ _ _ _ _ _ _ _) rfl 3 [0] [1, 2] rfl (by decide +kernel) rfl rfl rfl rfl (Nat.le_of_ble_eq_true rfl) (Nat.le_of_ble_eq_true rfl) (Nat.le_of_ble_eq_true rfl) g_108.1 g_108.2 dL_law_288 rfl (fun v_117 u_118 hp_119 => ?_)
      obtain ⟨q_120, q_121, rfl, rfl⟩ := hp_119
      refine xr_perm C 3 [0, 1, 2] [] [MW q_29 q_120 q_121 cy x_116.2.1 x_116.2.2.1 x_116.2.2.2.1 x_116.2.2.2.2.1 x_116.2.2.2.2.2, CW q_1 z_28 cy x_107.2.1 x_107.2.2.1, [(q_53, .inr (9, [.long x_107.2.2.2, q_112]))]] rfl (by decide +kernel) rfl ?_
      refine xr_st (st' := [.int x_116.1]) rfl ?_
      refine xr_istore (n := 293) C [(6, .int x_116.1), (5, .int x_107.1), (0, .ref b), (1, .ref q_1), (2, .ref q_29), (3, .ref q_53), (4, .int s_58.1)] dL_law_291 (by decide) rfl rfl ?_
      refine xr_goto (tgt := 888) C dL_law_293 rfl ?_
      refine xr_iinc (j := 6) (v := s_58.1 + 4) (n := 891) C [(4, .int (s_58.1 + 4)), (6, .int x_116.1), (5, .int x_107.1), (0, .ref b), (1, .ref q_1), (2, .ref q_29), (3, .ref q_53)] dL_law_888 rfl rfl (by decide) rfl rfl ?_
      refine xr_goto (tgt := 27) C dL_law_891 rfl ?_
      refine xr_lv (lv' := [(0, .ref b), (1, .ref q_1), (2, .ref q_29), (3, .ref q_53), (4, .int (s_58.1 + 4))]) [3, 4, 5, 6, 0] rfl ?_
      exact hk_58 (s_58.1 + 4, x_116.2.1, x_116.2.2.1, x_116.2.2.2.1, x_116.2.2.2.2.1, x_116.2.2.2.2.2, x_107.2.1, x_107.2.2.1, x_107.2.2.2, s_58.2.2.2.2.2.2.2.2.2.1 + 1, s_58.2.2.2.2.2.2.2.2.2.2 + 6) (Option.some.inj ho_58).symm q_120 q_121 q_112
    replace ho_58 := yf_f c_103 ho_58
    by_cases c_122 : ((xs s_58.1.toNatClampNeg) &&& 31) = 3
    · replace ho_58 := yf_t c_122 ho_58
      refine xr_tableIn (off := 253) (tgt := 296) C dL_law_43 (by rw [c_122]; decide) (by rw [c_122]; decide) (by rw [c_122]; decide) rfl ?_
      refine xr_aload_n (n := 297) (j := 1) C dL_law_296 rfl rfl ?_
      refine xr_aload_n (n := 298) (j := 0) C dL_law_297 rfl rfl ?_
      refine xr_iload (n := 300) (j := 4) C dL_law_298 rfl rfl ?_
      refine xr_iconst (n := 301) (v := 1) C dL_law_300 rfl rfl ?_
      refine xr_iadd (n := 302) C dL_law_301 rfl ?_
      obtain ⟨g_123, ho_58⟩ := yf_g ho_58
      refine xr_sld (n := 303) C hX hbl hbA g_123 dL_law_302 rfl ?_
      refine xr_aload_n (n := 304) (j := 3) C dL_law_303 rfl rfl ?_
      obtain ⟨x_124, hx_124, ho_58⟩ := yf_b ho_58
      obtain ⟨g_125, ho_58⟩ := yf_g ho_58
      refine xr_callSW (n := 307) (As := [.ref q_1, .int (xs (s_58.1 + 1).toNatClampNeg), .ref q_53]) (rest := []) C (kgL_kind l D cy hl0 (x := q_1) (a := z_28) (o := q_53) (os := a2_58) (n := s_58.2.2.2.2.2.2.1) (t := s_58.2.2.2.2.2.2.2.1) (on := s_58.2.2.2.2.2.2.2.2.1) (i1 := xs (s_58.1 + 1).toNatClampNeg) hx_124) mL_kind u_691 u_692 3 [1, 2] [0] rfl (by decide +kernel) rfl rfl rfl rfl (Nat.le_of_ble_eq_true rfl) (Nat.le_of_ble_eq_true rfl) (Nat.le_of_ble_eq_true rfl) g_125.1 g_125.2 dL_law_304 rfl (fun v_126 u_127 hp_128 => ?_)
      obtain ⟨q_129, rfl, rfl⟩ := hp_128
      refine xr_perm C 3 [2, 0, 1] [] [MW q_29 a0_58 a1_58 cy s_58.2.1 s_58.2.2.1 s_58.2.2.2.1 s_58.2.2.2.2.1 s_58.2.2.2.2.2.1, CW q_1 z_28 cy x_124.2.1 x_124.2.2.1, [(q_53, .inr (9, [.long x_124.2.2.2, q_129]))]] rfl (by decide +kernel) rfl ?_
      refine xr_st (st' := [.int x_124.1]) rfl ?_
      refine xr_istore (n := 309) C [(5, .int x_124.1), (0, .ref b), (1, .ref q_1), (2, .ref q_29), (3, .ref q_53), (4, .int s_58.1)] dL_law_307 (by decide) rfl rfl ?_
      refine xr_aload_n (n := 310) (j := 3) C dL_law_309 rfl rfl ?_
      refine xr_aload_n (n := 311) (j := 1) C dL_law_310 rfl rfl ?_
      refine xr_iload (n := 313) (j := 5) C dL_law_311 rfl rfl ?_
      refine xr_iconst (n := 314) (v := 1) C dL_law_313 rfl rfl ?_
      refine xr_iadd (n := 315) C dL_law_314 rfl ?_
      obtain ⟨g_130, ho_58⟩ := yf_g ho_58
      refine xr_sld (n := 316) C hX hbl hbA g_130 dL_law_315 rfl ?_
      obtain ⟨x_131, hx_131, ho_58⟩ := yf_b ho_58
      refine xr_callVP (n := 319) (As := [.int (xs (s_58.1 + 1).toNatClampNeg)]) (rest := []) C (kgX9w_kind l D cy (g := q_29) (a := a0_58) (ad := a1_58) (sh := s_58.2.1) (n := s_58.2.2.1) (L := s_58.2.2.2.1) (k := s_58.2.2.2.2.1) (G := s_58.2.2.2.2.2.1) (i1 := xs (s_58.1 + 1).toNatClampNeg) hx_131) mX9_kind u_1323 u_1324 u_1325 0 rfl (MW_head _ _ _ _ _ _ _ _ _) rfl 3 [0] [1, 2] rfl (by decide +kernel) rfl rfl rfl rfl (Nat.le_of_ble_eq_true rfl) (Nat.le_of_ble_eq_true rfl) (Nat.le_of_ble_eq_true rfl) g_125.1 g_125.2 dL_law_316 rfl (fun v_132 u_133 hp_134 => ?_)
      obtain ⟨q_135, q_136, rfl, rfl⟩ := hp_134
      refine xr_perm C 3 [0, 1, 2] [] [MW q_29 q_135 q_136 cy x_131.2.1 x_131.2.2.1 x_131.2.2.2.1 x_131.2.2.2.2.1 x_131.2.2.2.2.2, CW q_1 z_28 cy x_124.2.1 x_124.2.2.1, [(q_53, .inr (9, [.long x_124.2.2.2, q_129]))]] rfl (by decide +kernel) rfl ?_
      refine xr_st (st' := [.int x_131.1]) rfl ?_
      refine xr_istore (n := 321) C [(6, .int x_131.1), (5, .int x_124.1), (0, .ref b), (1, .ref q_1), (2, .ref q_29), (3, .ref q_53), (4, .int s_58.1)] dL_law_319 (by decide) rfl rfl ?_
      refine xr_goto (tgt := 888) C dL_law_321 rfl ?_
      refine xr_iinc (j := 6) (v := s_58.1 + 4) (n := 891) C [(4, .int (s_58.1 + 4)), (6, .int x_131.1), (5, .int x_124.1), (0, .ref b), (1, .ref q_1), (2, .ref q_29), (3, .ref q_53)] dL_law_888 rfl rfl (by decide) rfl rfl ?_
      refine xr_goto (tgt := 27) C dL_law_891 rfl ?_
      refine xr_lv (lv' := [(0, .ref b), (1, .ref q_1), (2, .ref q_29), (3, .ref q_53), (4, .int (s_58.1 + 4))]) [3, 4, 5, 6, 0] rfl ?_
      exact hk_58 (s_58.1 + 4, x_131.2.1, x_131.2.2.1, x_131.2.2.2.1, x_131.2.2.2.2.1, x_131.2.2.2.2.2, x_124.2.1, x_124.2.2.1, x_124.2.2.2, s_58.2.2.2.2.2.2.2.2.2.1 + 1, s_58.2.2.2.2.2.2.2.2.2.2 + 6) (Option.some.inj ho_58).symm q_135 q_136 q_129
    replace ho_58 := yf_f c_122 ho_58
    by_cases c_137 : ((xs s_58.1.toNatClampNeg) &&& 31) = 4
    · replace ho_58 := yf_t c_137 ho_58
      refine xr_tableIn (off := 281) (tgt := 324) C dL_law_43 (by rw [c_137]; decide) (by rw [c_137]; decide) (by rw [c_137]; decide) rfl ?_
      refine xr_aload_n (n := 325) (j := 1) C dL_law_324 rfl rfl ?_
      refine xr_aload_n (n := 326) (j := 0) C dL_law_325 rfl rfl ?_
      refine xr_iload (n := 328) (j := 4) C dL_law_326 rfl rfl ?_
      refine xr_iconst (n := 329) (v := 1) C dL_law_328 rfl rfl ?_
      refine xr_iadd (n := 330) C dL_law_329 rfl ?_
      obtain ⟨g_138, ho_58⟩ := yf_g ho_58
      refine xr_sld (n := 331) C hX hbl hbA g_138 dL_law_330 rfl ?_
      obtain ⟨r_140, hE_140, ho_58⟩ := yf_b ho_58
      have J_140 : X p l e room_1 s m args below meth c D A H0 7 Q [MW q_29 a0_58 a1_58 cy s_58.2.1 s_58.2.2.1 s_58.2.2.2.1 s_58.2.2.2.2.1 s_58.2.2.2.2.2.1, CW q_1 z_28 cy s_58.2.2.2.2.2.2.1 s_58.2.2.2.2.2.2.2.1, [(q_53, .inr (9, [.long s_58.2.2.2.2.2.2.2.2.1, a2_58]))]] s_58.2.2.2.2.2.2.2.2.2.1 s_58.2.2.2.2.2.2.2.2.2.2 [(0, .ref b), (1, .ref q_1), (2, .ref q_29), (3, .ref q_53), (4, .int s_58.1)] 339 [.int r_140, .ref q_1] := by
        refine xr_aload_n (n := 340) (j := 3) C dL_law_339 rfl rfl ?_
        obtain ⟨x_141, hx_141, ho_58⟩ := yf_b ho_58
        obtain ⟨g_142, ho_58⟩ := yf_g ho_58
        refine xr_callSW (n := 343) (As := [.ref q_1, .int r_140, .ref q_53]) (rest := []) C (kgL_checked l D cy hl0 (x := q_1) (a := z_28) (o := q_53) (os := a2_58) (n := s_58.2.2.2.2.2.2.1) (t := s_58.2.2.2.2.2.2.2.1) (on := s_58.2.2.2.2.2.2.2.2.1) (i1 := r_140) hx_141) mL_checked u_699 u_700 3 [1, 2] [0] rfl (by decide +kernel) rfl rfl rfl rfl (Nat.le_of_ble_eq_true rfl) (Nat.le_of_ble_eq_true rfl) (Nat.le_of_ble_eq_true rfl) g_142.1 g_142.2 dL_law_340 rfl (fun v_143 u_144 hp_145 => ?_)
        obtain ⟨q_146, rfl, rfl⟩ := hp_145
        refine xr_perm C 3 [2, 0, 1] [] [MW q_29 a0_58 a1_58 cy s_58.2.1 s_58.2.2.1 s_58.2.2.2.1 s_58.2.2.2.2.1 s_58.2.2.2.2.2.1, CW q_1 z_28 cy x_141.2.1 x_141.2.2.1, [(q_53, .inr (9, [.long x_141.2.2.2, q_146]))]] rfl (by decide +kernel) rfl ?_
        refine xr_st (st' := [.int x_141.1]) rfl ?_
        refine xr_istore (n := 345) C [(5, .int x_141.1), (0, .ref b), (1, .ref q_1), (2, .ref q_29), (3, .ref q_53), (4, .int s_58.1)] dL_law_343 (by decide) rfl rfl ?_
        refine xr_aload_n (n := 346) (j := 3) C dL_law_345 rfl rfl ?_
        refine xr_aload_n (n := 347) (j := 1) C dL_law_346 rfl rfl ?_
        refine xr_iload (n := 349) (j := 5) C dL_law_347 rfl rfl ?_
        refine xr_iconst (n := 350) (v := 1) C dL_law_349 rfl rfl ?_
        refine xr_iadd (n := 351) C dL_law_350 rfl ?_
        obtain ⟨g_147, ho_58⟩ := yf_g ho_58
        refine xr_sld (n := 352) C hX hbl hbA g_147 dL_law_351 rfl ?_
        obtain ⟨r_149, hE_149, ho_58⟩ := yf_b ho_58
        have J_149 : X p l e room_1 s m args below meth c D A H0 7 Q [MW q_29 a0_58 a1_58 cy s_58.2.1 s_58.2.2.1 s_58.2.2.2.1 s_58.2.2.2.2.1 s_58.2.2.2.2.2.1, CW q_1 z_28 cy x_141.2.1 x_141.2.2.1, [(q_53, .inr (9, [.long x_141.2.2.2, q_146]))]] (s_58.2.2.2.2.2.2.2.2.2.1 + 1) (s_58.2.2.2.2.2.2.2.2.2.2 + 6) [(0, .ref b), (1, .ref q_1), (2, .ref q_29), (3, .ref q_53), (4, .int s_58.1)] 360 [.int r_149, .ref q_29] := by
          obtain ⟨x_150, hx_150, ho_58⟩ := yf_b ho_58
          refine xr_callVP (n := 363) (As := [.int r_149]) (rest := []) C (kgX9w_checked l D cy (g := q_29) (a := a0_58) (ad := a1_58) (sh := s_58.2.1) (n := s_58.2.2.1) (L := s_58.2.2.2.1) (k := s_58.2.2.2.2.1) (G := s_58.2.2.2.2.2.1) (i1 := r_149) hx_150) mX9_checked u_1327 u_1328 u_1329 0 rfl (MW_head _ _ _ _ _ _ _ _ _) rfl 3 [0] [1, 2] rfl (by decide +kernel) rfl rfl rfl rfl (Nat.le_of_ble_eq_true rfl) (Nat.le_of_ble_eq_true rfl) (Nat.le_of_ble_eq_true rfl) g_142.1 g_142.2 dL_law_360 rfl (fun v_151 u_152 hp_153 => ?_)
          obtain ⟨q_154, q_155, rfl, rfl⟩ := hp_153
          refine xr_perm C 3 [0, 1, 2] [] [MW q_29 q_154 q_155 cy x_150.2.1 x_150.2.2.1 x_150.2.2.2.1 x_150.2.2.2.2.1 x_150.2.2.2.2.2, CW q_1 z_28 cy x_141.2.1 x_141.2.2.1, [(q_53, .inr (9, [.long x_141.2.2.2, q_146]))]] rfl (by decide +kernel) rfl ?_
          refine xr_st (st' := [.int x_150.1]) rfl ?_
          refine xr_istore (n := 365) C [(6, .int x_150.1), (0, .ref b), (1, .ref q_1), (2, .ref q_29), (3, .ref q_53), (4, .int s_58.1)] dL_law_363 (by decide) rfl rfl ?_
          refine xr_goto (tgt := 888) C dL_law_365 rfl ?_
          refine xr_iinc (j := 5) (v := s_58.1 + 4) (n := 891) C [(4, .int (s_58.1 + 4)), (6, .int x_150.1), (0, .ref b), (1, .ref q_1), (2, .ref q_29), (3, .ref q_53)] dL_law_888 rfl rfl (by decide) rfl rfl ?_
          refine xr_goto (tgt := 27) C dL_law_891 rfl ?_
          refine xr_lv (lv' := [(0, .ref b), (1, .ref q_1), (2, .ref q_29), (3, .ref q_53), (4, .int (s_58.1 + 4))]) [2, 3, 4, 5, 0] rfl ?_
          exact hk_58 (s_58.1 + 4, x_150.2.1, x_150.2.2.1, x_150.2.2.2.1, x_150.2.2.2.2.1, x_150.2.2.2.2.2, x_141.2.1, x_141.2.2.1, x_141.2.2.2, s_58.2.2.2.2.2.2.2.2.2.1 + 1, s_58.2.2.2.2.2.2.2.2.2.2 + 6) (Option.some.inj ho_58).symm q_154 q_155 q_146
        refine xr_if_eq (tgt := 359) (n := 355) C dL_law_352 rfl rfl (fun c_156 => ?_) (fun c_156 => ?_)
        · replace hE_149 := yf_t c_156 hE_149
          refine xr_iconst (n := 360) (v := 0) C dL_law_359 rfl rfl ?_
          refine xr_lv (lv' := [(0, .ref b), (1, .ref q_1), (2, .ref q_29), (3, .ref q_53), (4, .int s_58.1)]) [1, 2, 3, 4, 5] rfl ?_
          have e_157 := Option.some.inj hE_149
          subst e_157
          exact J_149
        · replace hE_149 := yf_f c_156 hE_149
          refine xr_iconst (n := 356) (v := 1) C dL_law_355 rfl rfl ?_
          refine xr_goto (tgt := 360) C dL_law_356 rfl ?_
          refine xr_lv (lv' := [(0, .ref b), (1, .ref q_1), (2, .ref q_29), (3, .ref q_53), (4, .int s_58.1)]) [1, 2, 3, 4, 5] rfl ?_
          have e_158 := Option.some.inj hE_149
          subst e_158
          exact J_149
      refine xr_if_eq (tgt := 338) (n := 334) C dL_law_331 rfl rfl (fun c_159 => ?_) (fun c_159 => ?_)
      · replace hE_140 := yf_t c_159 hE_140
        refine xr_iconst (n := 339) (v := 0) C dL_law_338 rfl rfl ?_
        have e_160 := Option.some.inj hE_140
        subst e_160
        exact J_140
      · replace hE_140 := yf_f c_159 hE_140
        refine xr_iconst (n := 335) (v := 1) C dL_law_334 rfl rfl ?_
        refine xr_goto (tgt := 339) C dL_law_335 rfl ?_
        have e_161 := Option.some.inj hE_140
        subst e_161
        exact J_140
    replace ho_58 := yf_f c_137 ho_58
    by_cases c_162 : ((xs s_58.1.toNatClampNeg) &&& 31) = 5
    · replace ho_58 := yf_t c_162 ho_58
      refine xr_tableIn (off := 325) (tgt := 368) C dL_law_43 (by rw [c_162]; decide) (by rw [c_162]; decide) (by rw [c_162]; decide) rfl ?_
      refine xr_aload_n (n := 369) (j := 1) C dL_law_368 rfl rfl ?_
      refine xr_aload_n (n := 370) (j := 0) C dL_law_369 rfl rfl ?_
      refine xr_iload (n := 372) (j := 4) C dL_law_370 rfl rfl ?_
      refine xr_iconst (n := 373) (v := 1) C dL_law_372 rfl rfl ?_
      refine xr_iadd (n := 374) C dL_law_373 rfl ?_
      obtain ⟨g_163, ho_58⟩ := yf_g ho_58
      refine xr_sld (n := 375) C hX hbl hbA g_163 dL_law_374 rfl ?_
      refine xr_aload_n (n := 376) (j := 0) C dL_law_375 rfl rfl ?_
      refine xr_iload (n := 378) (j := 4) C dL_law_376 rfl rfl ?_
      refine xr_iconst (n := 379) (v := 2) C dL_law_378 rfl rfl ?_
      refine xr_iadd (n := 380) C dL_law_379 rfl ?_
      obtain ⟨g_164, ho_58⟩ := yf_g ho_58
      refine xr_sld (n := 381) C hX hbl hbA g_164 dL_law_380 rfl ?_
      refine xr_aload_n (n := 382) (j := 0) C dL_law_381 rfl rfl ?_
      refine xr_iload (n := 384) (j := 4) C dL_law_382 rfl rfl ?_
      refine xr_iconst (n := 385) (v := 3) C dL_law_384 rfl rfl ?_
      refine xr_iadd (n := 386) C dL_law_385 rfl ?_
      obtain ⟨g_165, ho_58⟩ := yf_g ho_58
      refine xr_sld (n := 387) C hX hbl hbA g_165 dL_law_386 rfl ?_
      obtain ⟨r_167, hE_167, ho_58⟩ := yf_b ho_58
      have J_167 : X p l e room_1 s m args below meth c D A H0 7 Q [MW q_29 a0_58 a1_58 cy s_58.2.1 s_58.2.2.1 s_58.2.2.2.1 s_58.2.2.2.2.1 s_58.2.2.2.2.2.1, CW q_1 z_28 cy s_58.2.2.2.2.2.2.1 s_58.2.2.2.2.2.2.2.1, [(q_53, .inr (9, [.long s_58.2.2.2.2.2.2.2.2.1, a2_58]))]] s_58.2.2.2.2.2.2.2.2.2.1 s_58.2.2.2.2.2.2.2.2.2.2 [(0, .ref b), (1, .ref q_1), (2, .ref q_29), (3, .ref q_53), (4, .int s_58.1)] 395 [.int r_167, .int (xs (s_58.1 + 2).toNatClampNeg), .int (xs (s_58.1 + 1).toNatClampNeg), .ref q_1] := by
        refine xr_aload_n (n := 396) (j := 3) C dL_law_395 rfl rfl ?_
        obtain ⟨x_168, hx_168, ho_58⟩ := yf_b ho_58
        obtain ⟨g_169, ho_58⟩ := yf_g ho_58
        refine xr_callSW (n := 399) (As := [.ref q_1, .int (xs (s_58.1 + 1).toNatClampNeg), .int (xs (s_58.1 + 2).toNatClampNeg), .int r_167, .ref q_53]) (rest := []) C (kgL_broken l D cy hl0 (x := q_1) (a := z_28) (o := q_53) (os := a2_58) (n := s_58.2.2.2.2.2.2.1) (t := s_58.2.2.2.2.2.2.2.1) (on := s_58.2.2.2.2.2.2.2.2.1) (i1 := xs (s_58.1 + 1).toNatClampNeg) (i2 := xs (s_58.1 + 2).toNatClampNeg) (isb := r_167) hx_168) mL_broken u_723 u_724 3 [1, 2] [0] rfl (by decide +kernel) rfl rfl rfl rfl (Nat.le_of_ble_eq_true rfl) (Nat.le_of_ble_eq_true rfl) (Nat.le_of_ble_eq_true rfl) g_169.1 g_169.2 dL_law_396 rfl (fun v_170 u_171 hp_172 => ?_)
        obtain ⟨q_173, rfl, rfl⟩ := hp_172
        refine xr_perm C 3 [2, 0, 1] [] [MW q_29 a0_58 a1_58 cy s_58.2.1 s_58.2.2.1 s_58.2.2.2.1 s_58.2.2.2.2.1 s_58.2.2.2.2.2.1, CW q_1 z_28 cy x_168.2.1 x_168.2.2.1, [(q_53, .inr (9, [.long x_168.2.2.2, q_173]))]] rfl (by decide +kernel) rfl ?_
        refine xr_st (st' := [.int x_168.1]) rfl ?_
        refine xr_istore (n := 401) C [(5, .int x_168.1), (0, .ref b), (1, .ref q_1), (2, .ref q_29), (3, .ref q_53), (4, .int s_58.1)] dL_law_399 (by decide) rfl rfl ?_
        refine xr_aload_n (n := 402) (j := 3) C dL_law_401 rfl rfl ?_
        refine xr_aload_n (n := 403) (j := 1) C dL_law_402 rfl rfl ?_
        refine xr_iload (n := 405) (j := 5) C dL_law_403 rfl rfl ?_
        refine xr_iconst (n := 406) (v := 1) C dL_law_405 rfl rfl ?_
        refine xr_iadd (n := 407) C dL_law_406 rfl ?_
        obtain ⟨g_174, ho_58⟩ := yf_g ho_58
        refine xr_sld (n := 408) C hX hbl hbA g_174 dL_law_407 rfl ?_
        refine xr_aload_n (n := 409) (j := 1) C dL_law_408 rfl rfl ?_
        refine xr_iload (n := 411) (j := 5) C dL_law_409 rfl rfl ?_
        refine xr_iconst (n := 412) (v := 2) C dL_law_411 rfl rfl ?_
        refine xr_iadd (n := 413) C dL_law_412 rfl ?_
        obtain ⟨g_175, ho_58⟩ := yf_g ho_58
        refine xr_sld (n := 414) C hX hbl hbA g_175 dL_law_413 rfl ?_
        refine xr_aload_n (n := 415) (j := 1) C dL_law_414 rfl rfl ?_
        refine xr_iload (n := 417) (j := 5) C dL_law_415 rfl rfl ?_
        refine xr_iconst (n := 418) (v := 3) C dL_law_417 rfl rfl ?_
        refine xr_iadd (n := 419) C dL_law_418 rfl ?_
        obtain ⟨g_176, ho_58⟩ := yf_g ho_58
        refine xr_sld (n := 420) C hX hbl hbA g_176 dL_law_419 rfl ?_
        obtain ⟨r_178, hE_178, ho_58⟩ := yf_b ho_58
        have J_178 : X p l e room_1 s m args below meth c D A H0 7 Q [MW q_29 a0_58 a1_58 cy s_58.2.1 s_58.2.2.1 s_58.2.2.2.1 s_58.2.2.2.2.1 s_58.2.2.2.2.2.1, CW q_1 z_28 cy x_168.2.1 x_168.2.2.1, [(q_53, .inr (9, [.long x_168.2.2.2, q_173]))]] (s_58.2.2.2.2.2.2.2.2.2.1 + 1) (s_58.2.2.2.2.2.2.2.2.2.2 + 6) [(0, .ref b), (1, .ref q_1), (2, .ref q_29), (3, .ref q_53), (4, .int s_58.1)] 428 [.int r_178, .int (xs (s_58.1 + 2).toNatClampNeg), .int (xs (s_58.1 + 1).toNatClampNeg), .ref q_29] := by
          obtain ⟨x_179, hx_179, ho_58⟩ := yf_b ho_58
          refine xr_callVP (n := 431) (As := [.int (xs (s_58.1 + 1).toNatClampNeg), .int (xs (s_58.1 + 2).toNatClampNeg), .int r_178]) (rest := []) C (kgX9w_broken l D cy (g := q_29) (a := a0_58) (ad := a1_58) (sh := s_58.2.1) (n := s_58.2.2.1) (L := s_58.2.2.2.1) (k := s_58.2.2.2.2.1) (G := s_58.2.2.2.2.2.1) (i1 := xs (s_58.1 + 1).toNatClampNeg) (i2 := xs (s_58.1 + 2).toNatClampNeg) (isb := r_178) hx_179) mX9_broken u_1331 u_1332 u_1333 0 rfl (MW_head _ _ _ _ _ _ _ _ _) rfl 3 [0] [1, 2] rfl (by decide +kernel) rfl rfl rfl rfl (Nat.le_of_ble_eq_true rfl) (Nat.le_of_ble_eq_true rfl) (Nat.le_of_ble_eq_true rfl) g_169.1 g_169.2 dL_law_428 rfl (fun v_180 u_181 hp_182 => ?_)
          obtain ⟨q_183, q_184, rfl, rfl⟩ := hp_182
          refine xr_perm C 3 [0, 1, 2] [] [MW q_29 q_183 q_184 cy x_179.2.1 x_179.2.2.1 x_179.2.2.2.1 x_179.2.2.2.2.1 x_179.2.2.2.2.2, CW q_1 z_28 cy x_168.2.1 x_168.2.2.1, [(q_53, .inr (9, [.long x_168.2.2.2, q_173]))]] rfl (by decide +kernel) rfl ?_
          refine xr_st (st' := [.int x_179.1]) rfl ?_
          refine xr_istore (n := 433) C [(6, .int x_179.1), (0, .ref b), (1, .ref q_1), (2, .ref q_29), (3, .ref q_53), (4, .int s_58.1)] dL_law_431 (by decide) rfl rfl ?_
          refine xr_goto (tgt := 888) C dL_law_433 rfl ?_
          refine xr_iinc (j := 5) (v := s_58.1 + 4) (n := 891) C [(4, .int (s_58.1 + 4)), (6, .int x_179.1), (0, .ref b), (1, .ref q_1), (2, .ref q_29), (3, .ref q_53)] dL_law_888 rfl rfl (by decide) rfl rfl ?_
          refine xr_goto (tgt := 27) C dL_law_891 rfl ?_
          refine xr_lv (lv' := [(0, .ref b), (1, .ref q_1), (2, .ref q_29), (3, .ref q_53), (4, .int (s_58.1 + 4))]) [2, 3, 4, 5, 0] rfl ?_
          exact hk_58 (s_58.1 + 4, x_179.2.1, x_179.2.2.1, x_179.2.2.2.1, x_179.2.2.2.2.1, x_179.2.2.2.2.2, x_168.2.1, x_168.2.2.1, x_168.2.2.2, s_58.2.2.2.2.2.2.2.2.2.1 + 1, s_58.2.2.2.2.2.2.2.2.2.2 + 6) (Option.some.inj ho_58).symm q_183 q_184 q_173
        refine xr_if_eq (tgt := 427) (n := 423) C dL_law_420 rfl rfl (fun c_185 => ?_) (fun c_185 => ?_)
        · replace hE_178 := yf_t c_185 hE_178
          refine xr_iconst (n := 428) (v := 0) C dL_law_427 rfl rfl ?_
          refine xr_lv (lv' := [(0, .ref b), (1, .ref q_1), (2, .ref q_29), (3, .ref q_53), (4, .int s_58.1)]) [1, 2, 3, 4, 5] rfl ?_
          have e_186 := Option.some.inj hE_178
          subst e_186
          exact J_178
        · replace hE_178 := yf_f c_185 hE_178
          refine xr_iconst (n := 424) (v := 1) C dL_law_423 rfl rfl ?_
          refine xr_goto (tgt := 428) C dL_law_424 rfl ?_
          refine xr_lv (lv' := [(0, .ref b), (1, .ref q_1), (2, .ref q_29), (3, .ref q_53), (4, .int s_58.1)]) [1, 2, 3, 4, 5] rfl ?_
          have e_187 := Option.some.inj hE_178
          subst e_187
          exact J_178
      refine xr_if_eq (tgt := 394) (n := 390) C dL_law_387 rfl rfl (fun c_188 => ?_) (fun c_188 => ?_)
      · replace hE_167 := yf_t c_188 hE_167
        refine xr_iconst (n := 395) (v := 0) C dL_law_394 rfl rfl ?_
        have e_189 := Option.some.inj hE_167
        subst e_189
        exact J_167
      · replace hE_167 := yf_f c_188 hE_167
        refine xr_iconst (n := 391) (v := 1) C dL_law_390 rfl rfl ?_
        refine xr_goto (tgt := 395) C dL_law_391 rfl ?_
        have e_190 := Option.some.inj hE_167
        subst e_190
        exact J_167
    replace ho_58 := yf_f c_162 ho_58
    by_cases c_191 : ((xs s_58.1.toNatClampNeg) &&& 31) = 6
    · replace ho_58 := yf_t c_191 ho_58
      refine xr_tableIn (off := 393) (tgt := 436) C dL_law_43 (by rw [c_191]; decide) (by rw [c_191]; decide) (by rw [c_191]; decide) rfl ?_
      refine xr_aload_n (n := 437) (j := 1) C dL_law_436 rfl rfl ?_
      refine xr_aload_n (n := 438) (j := 3) C dL_law_437 rfl rfl ?_
      obtain ⟨x_192, hx_192, ho_58⟩ := yf_b ho_58
      obtain ⟨g_193, ho_58⟩ := yf_g ho_58
      refine xr_callSW (n := 441) (As := [.ref q_1, .ref q_53]) (rest := []) C (kgL_test l D cy hl0 (x := q_1) (a := z_28) (o := q_53) (os := a2_58) (n := s_58.2.2.2.2.2.2.1) (t := s_58.2.2.2.2.2.2.2.1) (on := s_58.2.2.2.2.2.2.2.2.1) hx_192) mL_test u_738 u_739 3 [1, 2] [0] rfl (by decide +kernel) rfl rfl rfl rfl (Nat.le_of_ble_eq_true rfl) (Nat.le_of_ble_eq_true rfl) (Nat.le_of_ble_eq_true rfl) g_193.1 g_193.2 dL_law_438 rfl (fun v_194 u_195 hp_196 => ?_)
      obtain ⟨q_197, rfl, rfl⟩ := hp_196
      refine xr_perm C 3 [2, 0, 1] [] [MW q_29 a0_58 a1_58 cy s_58.2.1 s_58.2.2.1 s_58.2.2.2.1 s_58.2.2.2.2.1 s_58.2.2.2.2.2.1, CW q_1 z_28 cy x_192.2.1 x_192.2.2.1, [(q_53, .inr (9, [.long x_192.2.2.2, q_197]))]] rfl (by decide +kernel) rfl ?_
      refine xr_st (st' := [.int x_192.1]) rfl ?_
      refine xr_istore (n := 443) C [(5, .int x_192.1), (0, .ref b), (1, .ref q_1), (2, .ref q_29), (3, .ref q_53), (4, .int s_58.1)] dL_law_441 (by decide) rfl rfl ?_
      refine xr_aload_n (n := 444) (j := 3) C dL_law_443 rfl rfl ?_
      obtain ⟨x_198, hx_198, ho_58⟩ := yf_b ho_58
      obtain ⟨g_199, ho_58⟩ := yf_g ho_58
      refine xr_callVP (n := 447) (As := []) (rest := []) C (kgX9w_test l D cy (g := q_29) (a := a0_58) (ad := a1_58) (sh := s_58.2.1) (n := s_58.2.2.1) (L := s_58.2.2.2.1) (k := s_58.2.2.2.2.1) (G := s_58.2.2.2.2.2.1) hx_198) mX9_test u_1342 u_1343 u_1344 0 rfl (MW_head _ _ _ _ _ _ _ _ _) rfl 3 [0] [1, 2] rfl (by decide +kernel) rfl rfl rfl rfl (Nat.le_of_ble_eq_true rfl) (Nat.le_of_ble_eq_true rfl) (Nat.le_of_ble_eq_true rfl) g_199.1 g_199.2 dL_law_444 rfl (fun v_200 u_201 hp_202 => ?_)
      obtain ⟨q_203, q_204, rfl, rfl⟩ := hp_202
      refine xr_perm C 3 [0, 1, 2] [] [MW q_29 q_203 q_204 cy x_198.2.1 x_198.2.2.1 x_198.2.2.2.1 x_198.2.2.2.2.1 x_198.2.2.2.2.2, CW q_1 z_28 cy x_192.2.1 x_192.2.2.1, [(q_53, .inr (9, [.long x_192.2.2.2, q_197]))]] rfl (by decide +kernel) rfl ?_
      refine xr_st (st' := [.int x_198.1]) rfl ?_
      refine xr_istore (n := 449) C [(6, .int x_198.1), (5, .int x_192.1), (0, .ref b), (1, .ref q_1), (2, .ref q_29), (3, .ref q_53), (4, .int s_58.1)] dL_law_447 (by decide) rfl rfl ?_
      refine xr_goto (tgt := 888) C dL_law_449 rfl ?_
      refine xr_iinc (j := 6) (v := s_58.1 + 4) (n := 891) C [(4, .int (s_58.1 + 4)), (6, .int x_198.1), (5, .int x_192.1), (0, .ref b), (1, .ref q_1), (2, .ref q_29), (3, .ref q_53)] dL_law_888 rfl rfl (by decide) rfl rfl ?_
      refine xr_goto (tgt := 27) C dL_law_891 rfl ?_
      refine xr_lv (lv' := [(0, .ref b), (1, .ref q_1), (2, .ref q_29), (3, .ref q_53), (4, .int (s_58.1 + 4))]) [3, 4, 5, 6, 0] rfl ?_
      exact hk_58 (s_58.1 + 4, x_198.2.1, x_198.2.2.1, x_198.2.2.2.1, x_198.2.2.2.2.1, x_198.2.2.2.2.2, x_192.2.1, x_192.2.2.1, x_192.2.2.2, s_58.2.2.2.2.2.2.2.2.2.1 + 1 + 10, s_58.2.2.2.2.2.2.2.2.2.2 + 6 + 50) (Option.some.inj ho_58).symm q_203 q_204 q_197
    replace ho_58 := yf_f c_191 ho_58
    by_cases c_205 : ((xs s_58.1.toNatClampNeg) &&& 31) = 7
    · replace ho_58 := yf_t c_205 ho_58
      refine xr_tableIn (off := 409) (tgt := 452) C dL_law_43 (by rw [c_205]; decide) (by rw [c_205]; decide) (by rw [c_205]; decide) rfl ?_
      refine xr_aload_n (n := 453) (j := 1) C dL_law_452 rfl rfl ?_
      refine xr_aload_n (n := 454) (j := 3) C dL_law_453 rfl rfl ?_
      obtain ⟨x_206, hx_206, ho_58⟩ := yf_b ho_58
      obtain ⟨g_207, ho_58⟩ := yf_g ho_58
      refine xr_callSW (n := 457) (As := [.ref q_1, .ref q_53]) (rest := []) C (kgL_start l D cy hl0 (x := q_1) (a := z_28) (o := q_53) (os := a2_58) (n := s_58.2.2.2.2.2.2.1) (t := s_58.2.2.2.2.2.2.2.1) (on := s_58.2.2.2.2.2.2.2.2.1) hx_206) mL_start u_751 u_752 3 [1, 2] [0] rfl (by decide +kernel) rfl rfl rfl rfl (Nat.le_of_ble_eq_true rfl) (Nat.le_of_ble_eq_true rfl) (Nat.le_of_ble_eq_true rfl) g_207.1 g_207.2 dL_law_454 rfl (fun v_208 u_209 hp_210 => ?_)
      obtain ⟨q_211, rfl, rfl⟩ := hp_210
      refine xr_perm C 3 [2, 0, 1] [] [MW q_29 a0_58 a1_58 cy s_58.2.1 s_58.2.2.1 s_58.2.2.2.1 s_58.2.2.2.2.1 s_58.2.2.2.2.2.1, CW q_1 z_28 cy x_206.2.1 x_206.2.2.1, [(q_53, .inr (9, [.long x_206.2.2.2, q_211]))]] rfl (by decide +kernel) rfl ?_
      refine xr_st (st' := [.int x_206.1]) rfl ?_
      refine xr_istore (n := 459) C [(5, .int x_206.1), (0, .ref b), (1, .ref q_1), (2, .ref q_29), (3, .ref q_53), (4, .int s_58.1)] dL_law_457 (by decide) rfl rfl ?_
      refine xr_aload_n (n := 460) (j := 3) C dL_law_459 rfl rfl ?_
      obtain ⟨x_212, hx_212, ho_58⟩ := yf_b ho_58
      obtain ⟨g_213, ho_58⟩ := yf_g ho_58
      refine xr_callVP (n := 463) (As := []) (rest := []) C (kgX9w_begin l D cy (g := q_29) (a := a0_58) (ad := a1_58) (sh := s_58.2.1) (n := s_58.2.2.1) (L := s_58.2.2.2.1) (k := s_58.2.2.2.2.1) (G := s_58.2.2.2.2.2.1) hx_212) mX9_start_ u_1351 u_1352 u_1353 0 rfl (MW_head _ _ _ _ _ _ _ _ _) rfl 3 [0] [1, 2] rfl (by decide +kernel) rfl rfl rfl rfl (Nat.le_of_ble_eq_true rfl) (Nat.le_of_ble_eq_true rfl) (Nat.le_of_ble_eq_true rfl) g_213.1 g_213.2 dL_law_460 rfl (fun v_214 u_215 hp_216 => ?_)
      obtain ⟨q_217, q_218, rfl, rfl⟩ := hp_216
      refine xr_perm C 3 [0, 1, 2] [] [MW q_29 q_217 q_218 cy x_212.2.1 x_212.2.2.1 x_212.2.2.2.1 x_212.2.2.2.2.1 x_212.2.2.2.2.2, CW q_1 z_28 cy x_206.2.1 x_206.2.2.1, [(q_53, .inr (9, [.long x_206.2.2.2, q_211]))]] rfl (by decide +kernel) rfl ?_
      refine xr_st (st' := [.int x_212.1]) rfl ?_
      refine xr_istore (n := 465) C [(6, .int x_212.1), (5, .int x_206.1), (0, .ref b), (1, .ref q_1), (2, .ref q_29), (3, .ref q_53), (4, .int s_58.1)] dL_law_463 (by decide) rfl rfl ?_
      refine xr_goto (tgt := 888) C dL_law_465 rfl ?_
      refine xr_iinc (j := 6) (v := s_58.1 + 4) (n := 891) C [(4, .int (s_58.1 + 4)), (6, .int x_212.1), (5, .int x_206.1), (0, .ref b), (1, .ref q_1), (2, .ref q_29), (3, .ref q_53)] dL_law_888 rfl rfl (by decide) rfl rfl ?_
      refine xr_goto (tgt := 27) C dL_law_891 rfl ?_
      refine xr_lv (lv' := [(0, .ref b), (1, .ref q_1), (2, .ref q_29), (3, .ref q_53), (4, .int (s_58.1 + 4))]) [3, 4, 5, 6, 0] rfl ?_
      exact hk_58 (s_58.1 + 4, x_212.2.1, x_212.2.2.1, x_212.2.2.2.1, x_212.2.2.2.2.1, x_212.2.2.2.2.2, x_206.2.1, x_206.2.2.1, x_206.2.2.2, s_58.2.2.2.2.2.2.2.2.2.1 + 1 + 100, s_58.2.2.2.2.2.2.2.2.2.2 + 6 + 500) (Option.some.inj ho_58).symm q_217 q_218 q_211
    replace ho_58 := yf_f c_205 ho_58
    by_cases c_219 : ((xs s_58.1.toNatClampNeg) &&& 31) = 8
    · replace ho_58 := yf_t c_219 ho_58
      refine xr_tableIn (off := 425) (tgt := 468) C dL_law_43 (by rw [c_219]; decide) (by rw [c_219]; decide) (by rw [c_219]; decide) rfl ?_
      refine xr_aload_n (n := 469) (j := 1) C dL_law_468 rfl rfl ?_
      refine xr_aload_n (n := 470) (j := 0) C dL_law_469 rfl rfl ?_
      refine xr_iload (n := 472) (j := 4) C dL_law_470 rfl rfl ?_
      refine xr_iconst (n := 473) (v := 1) C dL_law_472 rfl rfl ?_
      refine xr_iadd (n := 474) C dL_law_473 rfl ?_
      obtain ⟨g_220, ho_58⟩ := yf_g ho_58
      refine xr_sld (n := 475) C hX hbl hbA g_220 dL_law_474 rfl ?_
      refine xr_aload_n (n := 476) (j := 3) C dL_law_475 rfl rfl ?_
      obtain ⟨x_221, hx_221, ho_58⟩ := yf_b ho_58
      obtain ⟨g_222, ho_58⟩ := yf_g ho_58
      refine xr_callSW (n := 479) (As := [.ref q_1, .int (xs (s_58.1 + 1).toNatClampNeg), .ref q_53]) (rest := []) C (kgL_beat l D cy hl0 (x := q_1) (a := z_28) (o := q_53) (os := a2_58) (n := s_58.2.2.2.2.2.2.1) (t := s_58.2.2.2.2.2.2.2.1) (on := s_58.2.2.2.2.2.2.2.2.1) (i1 := xs (s_58.1 + 1).toNatClampNeg) hx_221) mL_beat u_787 u_788 3 [1, 2] [0] rfl (by decide +kernel) rfl rfl rfl rfl (Nat.le_of_ble_eq_true rfl) (Nat.le_of_ble_eq_true rfl) (Nat.le_of_ble_eq_true rfl) g_222.1 g_222.2 dL_law_476 rfl (fun v_223 u_224 hp_225 => ?_)
      obtain ⟨q_226, rfl, rfl⟩ := hp_225
      refine xr_perm C 3 [2, 0, 1] [] [MW q_29 a0_58 a1_58 cy s_58.2.1 s_58.2.2.1 s_58.2.2.2.1 s_58.2.2.2.2.1 s_58.2.2.2.2.2.1, CW q_1 z_28 cy x_221.2.1 x_221.2.2.1, [(q_53, .inr (9, [.long x_221.2.2.2, q_226]))]] rfl (by decide +kernel) rfl ?_
      refine xr_st (st' := [.int x_221.1]) rfl ?_
      refine xr_istore (n := 481) C [(5, .int x_221.1), (0, .ref b), (1, .ref q_1), (2, .ref q_29), (3, .ref q_53), (4, .int s_58.1)] dL_law_479 (by decide) rfl rfl ?_
      refine xr_aload_n (n := 482) (j := 3) C dL_law_481 rfl rfl ?_
      refine xr_aload_n (n := 483) (j := 1) C dL_law_482 rfl rfl ?_
      refine xr_iload (n := 485) (j := 5) C dL_law_483 rfl rfl ?_
      refine xr_iconst (n := 486) (v := 1) C dL_law_485 rfl rfl ?_
      refine xr_iadd (n := 487) C dL_law_486 rfl ?_
      obtain ⟨g_227, ho_58⟩ := yf_g ho_58
      refine xr_sld (n := 488) C hX hbl hbA g_227 dL_law_487 rfl ?_
      obtain ⟨x_228, hx_228, ho_58⟩ := yf_b ho_58
      obtain ⟨g_229, ho_58⟩ := yf_g ho_58
      refine xr_callVP (n := 491) (As := [.int (xs (s_58.1 + 1).toNatClampNeg)]) (rest := []) C (kgX9w_beat l D cy (g := q_29) (a := a0_58) (ad := a1_58) (sh := s_58.2.1) (n := s_58.2.2.1) (L := s_58.2.2.2.1) (k := s_58.2.2.2.2.1) (G := s_58.2.2.2.2.2.1) (i1 := xs (s_58.1 + 1).toNatClampNeg) hx_228) mX9_beat u_1434 u_1435 u_1436 0 rfl (MW_head _ _ _ _ _ _ _ _ _) rfl 3 [0] [1, 2] rfl (by decide +kernel) rfl rfl rfl rfl (Nat.le_of_ble_eq_true rfl) (Nat.le_of_ble_eq_true rfl) (Nat.le_of_ble_eq_true rfl) g_229.1 g_229.2 dL_law_488 rfl (fun v_230 u_231 hp_232 => ?_)
      obtain ⟨q_233, q_234, rfl, rfl⟩ := hp_232
      refine xr_perm C 3 [0, 1, 2] [] [MW q_29 q_233 q_234 cy x_228.2.1 x_228.2.2.1 x_228.2.2.2.1 x_228.2.2.2.2.1 x_228.2.2.2.2.2, CW q_1 z_28 cy x_221.2.1 x_221.2.2.1, [(q_53, .inr (9, [.long x_221.2.2.2, q_226]))]] rfl (by decide +kernel) rfl ?_
      refine xr_st (st' := [.int x_228.1]) rfl ?_
      refine xr_istore (n := 493) C [(6, .int x_228.1), (5, .int x_221.1), (0, .ref b), (1, .ref q_1), (2, .ref q_29), (3, .ref q_53), (4, .int s_58.1)] dL_law_491 (by decide) rfl rfl ?_
      refine xr_goto (tgt := 888) C dL_law_493 rfl ?_
      refine xr_iinc (j := 6) (v := s_58.1 + 4) (n := 891) C [(4, .int (s_58.1 + 4)), (6, .int x_228.1), (5, .int x_221.1), (0, .ref b), (1, .ref q_1), (2, .ref q_29), (3, .ref q_53)] dL_law_888 rfl rfl (by decide) rfl rfl ?_
      refine xr_goto (tgt := 27) C dL_law_891 rfl ?_
      refine xr_lv (lv' := [(0, .ref b), (1, .ref q_1), (2, .ref q_29), (3, .ref q_53), (4, .int (s_58.1 + 4))]) [3, 4, 5, 6, 0] rfl ?_
      exact hk_58 (s_58.1 + 4, x_228.2.1, x_228.2.2.1, x_228.2.2.2.1, x_228.2.2.2.2.1, x_228.2.2.2.2.2, x_221.2.1, x_221.2.2.1, x_221.2.2.2, s_58.2.2.2.2.2.2.2.2.2.1 + 1 + 200, s_58.2.2.2.2.2.2.2.2.2.2 + 6 + 1800) (Option.some.inj ho_58).symm q_233 q_234 q_226
    replace ho_58 := yf_f c_219 ho_58
    by_cases c_235 : ((xs s_58.1.toNatClampNeg) &&& 31) = 9
    · replace ho_58 := yf_t c_235 ho_58
      refine xr_tableIn (off := 453) (tgt := 496) C dL_law_43 (by rw [c_235]; decide) (by rw [c_235]; decide) (by rw [c_235]; decide) rfl ?_
      refine xr_aload_n (n := 497) (j := 1) C dL_law_496 rfl rfl ?_
      refine xr_aload_n (n := 498) (j := 0) C dL_law_497 rfl rfl ?_
      refine xr_iload (n := 500) (j := 4) C dL_law_498 rfl rfl ?_
      refine xr_iconst (n := 501) (v := 1) C dL_law_500 rfl rfl ?_
      refine xr_iadd (n := 502) C dL_law_501 rfl ?_
      obtain ⟨g_236, ho_58⟩ := yf_g ho_58
      refine xr_sld (n := 503) C hX hbl hbA g_236 dL_law_502 rfl ?_
      refine xr_aload_n (n := 504) (j := 0) C dL_law_503 rfl rfl ?_
      refine xr_iload (n := 506) (j := 4) C dL_law_504 rfl rfl ?_
      refine xr_iconst (n := 507) (v := 2) C dL_law_506 rfl rfl ?_
      refine xr_iadd (n := 508) C dL_law_507 rfl ?_
      obtain ⟨g_237, ho_58⟩ := yf_g ho_58
      refine xr_sld (n := 509) C hX hbl hbA g_237 dL_law_508 rfl ?_
      refine xr_aload_n (n := 510) (j := 0) C dL_law_509 rfl rfl ?_
      refine xr_iload (n := 512) (j := 4) C dL_law_510 rfl rfl ?_
      refine xr_iconst (n := 513) (v := 3) C dL_law_512 rfl rfl ?_
      refine xr_iadd (n := 514) C dL_law_513 rfl ?_
      obtain ⟨g_238, ho_58⟩ := yf_g ho_58
      refine xr_sld (n := 515) C hX hbl hbA g_238 dL_law_514 rfl ?_
      refine xr_aload_n (n := 516) (j := 3) C dL_law_515 rfl rfl ?_
      obtain ⟨x_239, hx_239, ho_58⟩ := yf_b ho_58
      obtain ⟨g_240, ho_58⟩ := yf_g ho_58
      refine xr_callSW (n := 519) (As := [.ref q_1, .int (xs (s_58.1 + 1).toNatClampNeg), .int (xs (s_58.1 + 2).toNatClampNeg), .int (xs (s_58.1 + 3).toNatClampNeg), .ref q_53]) (rest := []) C (kgL_bend l D cy hl0 (x := q_1) (a := z_28) (o := q_53) (os := a2_58) (n := s_58.2.2.2.2.2.2.1) (t := s_58.2.2.2.2.2.2.2.1) (on := s_58.2.2.2.2.2.2.2.2.1) (i1 := xs (s_58.1 + 1).toNatClampNeg) (i2 := xs (s_58.1 + 2).toNatClampNeg) (i3 := xs (s_58.1 + 3).toNatClampNeg) hx_239) mL_bend u_829 u_830 3 [1, 2] [0] rfl (by decide +kernel) rfl rfl rfl rfl (Nat.le_of_ble_eq_true rfl) (Nat.le_of_ble_eq_true rfl) (Nat.le_of_ble_eq_true rfl) g_240.1 g_240.2 dL_law_516 rfl (fun v_241 u_242 hp_243 => ?_)
      obtain ⟨q_244, rfl, rfl⟩ := hp_243
      refine xr_perm C 3 [2, 0, 1] [] [MW q_29 a0_58 a1_58 cy s_58.2.1 s_58.2.2.1 s_58.2.2.2.1 s_58.2.2.2.2.1 s_58.2.2.2.2.2.1, CW q_1 z_28 cy x_239.2.1 x_239.2.2.1, [(q_53, .inr (9, [.long x_239.2.2.2, q_244]))]] rfl (by decide +kernel) rfl ?_
      refine xr_st (st' := [.int x_239.1]) rfl ?_
      refine xr_istore (n := 521) C [(5, .int x_239.1), (0, .ref b), (1, .ref q_1), (2, .ref q_29), (3, .ref q_53), (4, .int s_58.1)] dL_law_519 (by decide) rfl rfl ?_
      refine xr_aload_n (n := 522) (j := 3) C dL_law_521 rfl rfl ?_
      refine xr_aload_n (n := 523) (j := 1) C dL_law_522 rfl rfl ?_
      refine xr_iload (n := 525) (j := 5) C dL_law_523 rfl rfl ?_
      refine xr_iconst (n := 526) (v := 1) C dL_law_525 rfl rfl ?_
      refine xr_iadd (n := 527) C dL_law_526 rfl ?_
      obtain ⟨g_245, ho_58⟩ := yf_g ho_58
      refine xr_sld (n := 528) C hX hbl hbA g_245 dL_law_527 rfl ?_
      refine xr_aload_n (n := 529) (j := 1) C dL_law_528 rfl rfl ?_
      refine xr_iload (n := 531) (j := 5) C dL_law_529 rfl rfl ?_
      refine xr_iconst (n := 532) (v := 2) C dL_law_531 rfl rfl ?_
      refine xr_iadd (n := 533) C dL_law_532 rfl ?_
      obtain ⟨g_246, ho_58⟩ := yf_g ho_58
      refine xr_sld (n := 534) C hX hbl hbA g_246 dL_law_533 rfl ?_
      refine xr_aload_n (n := 535) (j := 1) C dL_law_534 rfl rfl ?_
      refine xr_iload (n := 537) (j := 5) C dL_law_535 rfl rfl ?_
      refine xr_iconst (n := 538) (v := 3) C dL_law_537 rfl rfl ?_
      refine xr_iadd (n := 539) C dL_law_538 rfl ?_
      obtain ⟨g_247, ho_58⟩ := yf_g ho_58
      refine xr_sld (n := 540) C hX hbl hbA g_247 dL_law_539 rfl ?_
      obtain ⟨x_248, hx_248, ho_58⟩ := yf_b ho_58
      refine xr_callVP (n := 543) (As := [.int (xs (s_58.1 + 1).toNatClampNeg), .int (xs (s_58.1 + 2).toNatClampNeg), .int (xs (s_58.1 + 3).toNatClampNeg)]) (rest := []) C (kgX9w_bend l D cy (g := q_29) (a := a0_58) (ad := a1_58) (sh := s_58.2.1) (n := s_58.2.2.1) (L := s_58.2.2.2.1) (k := s_58.2.2.2.2.1) (G := s_58.2.2.2.2.2.1) (i1 := xs (s_58.1 + 1).toNatClampNeg) (i2 := xs (s_58.1 + 2).toNatClampNeg) (i3 := xs (s_58.1 + 3).toNatClampNeg) hx_248) mX9_bend u_1484 u_1485 u_1486 0 rfl (MW_head _ _ _ _ _ _ _ _ _) rfl 3 [0] [1, 2] rfl (by decide +kernel) rfl rfl rfl rfl (Nat.le_of_ble_eq_true rfl) (Nat.le_of_ble_eq_true rfl) (Nat.le_of_ble_eq_true rfl) g_240.1 g_240.2 dL_law_540 rfl (fun v_249 u_250 hp_251 => ?_)
      obtain ⟨q_252, q_253, rfl, rfl⟩ := hp_251
      refine xr_perm C 3 [0, 1, 2] [] [MW q_29 q_252 q_253 cy x_248.2.1 x_248.2.2.1 x_248.2.2.2.1 x_248.2.2.2.2.1 x_248.2.2.2.2.2, CW q_1 z_28 cy x_239.2.1 x_239.2.2.1, [(q_53, .inr (9, [.long x_239.2.2.2, q_244]))]] rfl (by decide +kernel) rfl ?_
      refine xr_st (st' := [.int x_248.1]) rfl ?_
      refine xr_istore (n := 545) C [(6, .int x_248.1), (5, .int x_239.1), (0, .ref b), (1, .ref q_1), (2, .ref q_29), (3, .ref q_53), (4, .int s_58.1)] dL_law_543 (by decide) rfl rfl ?_
      refine xr_goto (tgt := 888) C dL_law_545 rfl ?_
      refine xr_iinc (j := 6) (v := s_58.1 + 4) (n := 891) C [(4, .int (s_58.1 + 4)), (6, .int x_248.1), (5, .int x_239.1), (0, .ref b), (1, .ref q_1), (2, .ref q_29), (3, .ref q_53)] dL_law_888 rfl rfl (by decide) rfl rfl ?_
      refine xr_goto (tgt := 27) C dL_law_891 rfl ?_
      refine xr_lv (lv' := [(0, .ref b), (1, .ref q_1), (2, .ref q_29), (3, .ref q_53), (4, .int (s_58.1 + 4))]) [3, 4, 5, 6, 0] rfl ?_
      exact hk_58 (s_58.1 + 4, x_248.2.1, x_248.2.2.1, x_248.2.2.2.1, x_248.2.2.2.2.1, x_248.2.2.2.2.2, x_239.2.1, x_239.2.2.1, x_239.2.2.2, s_58.2.2.2.2.2.2.2.2.2.1 + 1, s_58.2.2.2.2.2.2.2.2.2.2 + 6) (Option.some.inj ho_58).symm q_252 q_253 q_244
    replace ho_58 := yf_f c_235 ho_58
    by_cases c_254 : ((xs s_58.1.toNatClampNeg) &&& 31) = 10
    · replace ho_58 := yf_t c_254 ho_58
      refine xr_tableIn (off := 505) (tgt := 548) C dL_law_43 (by rw [c_254]; decide) (by rw [c_254]; decide) (by rw [c_254]; decide) rfl ?_
      refine xr_aload_n (n := 549) (j := 1) C dL_law_548 rfl rfl ?_
      refine xr_aload_n (n := 550) (j := 3) C dL_law_549 rfl rfl ?_
      obtain ⟨x_255, hx_255, ho_58⟩ := yf_b ho_58
      obtain ⟨g_256, ho_58⟩ := yf_g ho_58
      refine xr_callSW (n := 553) (As := [.ref q_1, .ref q_53]) (rest := []) C (kgL_check l D cy hl0 (x := q_1) (a := z_28) (o := q_53) (os := a2_58) (n := s_58.2.2.2.2.2.2.1) (t := s_58.2.2.2.2.2.2.2.1) (on := s_58.2.2.2.2.2.2.2.2.1) hx_255) mL_check u_842 u_843 3 [1, 2] [0] rfl (by decide +kernel) rfl rfl rfl rfl (Nat.le_of_ble_eq_true rfl) (Nat.le_of_ble_eq_true rfl) (Nat.le_of_ble_eq_true rfl) g_256.1 g_256.2 dL_law_550 rfl (fun v_257 u_258 hp_259 => ?_)
      obtain ⟨q_260, rfl, rfl⟩ := hp_259
      refine xr_perm C 3 [2, 0, 1] [] [MW q_29 a0_58 a1_58 cy s_58.2.1 s_58.2.2.1 s_58.2.2.2.1 s_58.2.2.2.2.1 s_58.2.2.2.2.2.1, CW q_1 z_28 cy x_255.2.1 x_255.2.2.1, [(q_53, .inr (9, [.long x_255.2.2.2, q_260]))]] rfl (by decide +kernel) rfl ?_
      refine xr_st (st' := [.int x_255.1]) rfl ?_
      refine xr_istore (n := 555) C [(5, .int x_255.1), (0, .ref b), (1, .ref q_1), (2, .ref q_29), (3, .ref q_53), (4, .int s_58.1)] dL_law_553 (by decide) rfl rfl ?_
      refine xr_aload_n (n := 556) (j := 3) C dL_law_555 rfl rfl ?_
      obtain ⟨x_261, hx_261, ho_58⟩ := yf_b ho_58
      refine xr_callVP (n := 559) (As := []) (rest := []) C (kgX9w_check l D cy (g := q_29) (a := a0_58) (ad := a1_58) (sh := s_58.2.1) (n := s_58.2.2.1) (L := s_58.2.2.2.1) (k := s_58.2.2.2.2.1) (G := s_58.2.2.2.2.2.1) hx_261) mX9_check u_1492 u_1493 u_1494 0 rfl (MW_head _ _ _ _ _ _ _ _ _) rfl 3 [0] [1, 2] rfl (by decide +kernel) rfl rfl rfl rfl (Nat.le_of_ble_eq_true rfl) (Nat.le_of_ble_eq_true rfl) (Nat.le_of_ble_eq_true rfl) g_256.1 g_256.2 dL_law_556 rfl (fun v_262 u_263 hp_264 => ?_)
      obtain ⟨q_265, q_266, rfl, rfl⟩ := hp_264
      refine xr_perm C 3 [0, 1, 2] [] [MW q_29 q_265 q_266 cy x_261.2.1 x_261.2.2.1 x_261.2.2.2.1 x_261.2.2.2.2.1 x_261.2.2.2.2.2, CW q_1 z_28 cy x_255.2.1 x_255.2.2.1, [(q_53, .inr (9, [.long x_255.2.2.2, q_260]))]] rfl (by decide +kernel) rfl ?_
      refine xr_st (st' := [.int x_261.1]) rfl ?_
      refine xr_istore (n := 561) C [(6, .int x_261.1), (5, .int x_255.1), (0, .ref b), (1, .ref q_1), (2, .ref q_29), (3, .ref q_53), (4, .int s_58.1)] dL_law_559 (by decide) rfl rfl ?_
      refine xr_goto (tgt := 888) C dL_law_561 rfl ?_
      refine xr_iinc (j := 6) (v := s_58.1 + 4) (n := 891) C [(4, .int (s_58.1 + 4)), (6, .int x_261.1), (5, .int x_255.1), (0, .ref b), (1, .ref q_1), (2, .ref q_29), (3, .ref q_53)] dL_law_888 rfl rfl (by decide) rfl rfl ?_
      refine xr_goto (tgt := 27) C dL_law_891 rfl ?_
      refine xr_lv (lv' := [(0, .ref b), (1, .ref q_1), (2, .ref q_29), (3, .ref q_53), (4, .int (s_58.1 + 4))]) [3, 4, 5, 6, 0] rfl ?_
      exact hk_58 (s_58.1 + 4, x_261.2.1, x_261.2.2.1, x_261.2.2.2.1, x_261.2.2.2.2.1, x_261.2.2.2.2.2, x_255.2.1, x_255.2.2.1, x_255.2.2.2, s_58.2.2.2.2.2.2.2.2.2.1 + 1, s_58.2.2.2.2.2.2.2.2.2.2 + 6) (Option.some.inj ho_58).symm q_265 q_266 q_260
    replace ho_58 := yf_f c_254 ho_58
    by_cases c_267 : ((xs s_58.1.toNatClampNeg) &&& 31) = 11
    · replace ho_58 := yf_t c_267 ho_58
      refine xr_tableIn (off := 521) (tgt := 564) C dL_law_43 (by rw [c_267]; decide) (by rw [c_267]; decide) (by rw [c_267]; decide) rfl ?_
      refine xr_aload_n (n := 565) (j := 1) C dL_law_564 rfl rfl ?_
      refine xr_aload_n (n := 566) (j := 0) C dL_law_565 rfl rfl ?_
      refine xr_iload (n := 568) (j := 4) C dL_law_566 rfl rfl ?_
      refine xr_iconst (n := 569) (v := 1) C dL_law_568 rfl rfl ?_
      refine xr_iadd (n := 570) C dL_law_569 rfl ?_
      obtain ⟨g_268, ho_58⟩ := yf_g ho_58
      refine xr_sld (n := 571) C hX hbl hbA g_268 dL_law_570 rfl ?_
      refine xr_aload_n (n := 572) (j := 3) C dL_law_571 rfl rfl ?_
      obtain ⟨x_269, hx_269, ho_58⟩ := yf_b ho_58
      obtain ⟨g_270, ho_58⟩ := yf_g ho_58
      refine xr_callSW (n := 575) (As := [.ref q_1, .int (xs (s_58.1 + 1).toNatClampNeg), .ref q_53]) (rest := []) C (kgL_mesh l D cy hl0 (x := q_1) (a := z_28) (o := q_53) (os := a2_58) (n := s_58.2.2.2.2.2.2.1) (t := s_58.2.2.2.2.2.2.2.1) (on := s_58.2.2.2.2.2.2.2.2.1) (i1 := xs (s_58.1 + 1).toNatClampNeg) hx_269) mL_mesh u_868 u_869 3 [1, 2] [0] rfl (by decide +kernel) rfl rfl rfl rfl (Nat.le_of_ble_eq_true rfl) (Nat.le_of_ble_eq_true rfl) (Nat.le_of_ble_eq_true rfl) g_270.1 g_270.2 dL_law_572 rfl (fun v_271 u_272 hp_273 => ?_)
      obtain ⟨q_274, rfl, rfl⟩ := hp_273
      refine xr_perm C 3 [2, 0, 1] [] [MW q_29 a0_58 a1_58 cy s_58.2.1 s_58.2.2.1 s_58.2.2.2.1 s_58.2.2.2.2.1 s_58.2.2.2.2.2.1, CW q_1 z_28 cy x_269.2.1 x_269.2.2.1, [(q_53, .inr (9, [.long x_269.2.2.2, q_274]))]] rfl (by decide +kernel) rfl ?_
      refine xr_st (st' := [.int x_269.1]) rfl ?_
      refine xr_istore (n := 577) C [(5, .int x_269.1), (0, .ref b), (1, .ref q_1), (2, .ref q_29), (3, .ref q_53), (4, .int s_58.1)] dL_law_575 (by decide) rfl rfl ?_
      refine xr_aload_n (n := 578) (j := 3) C dL_law_577 rfl rfl ?_
      refine xr_aload_n (n := 579) (j := 1) C dL_law_578 rfl rfl ?_
      refine xr_iload (n := 581) (j := 5) C dL_law_579 rfl rfl ?_
      refine xr_iconst (n := 582) (v := 1) C dL_law_581 rfl rfl ?_
      refine xr_iadd (n := 583) C dL_law_582 rfl ?_
      obtain ⟨g_275, ho_58⟩ := yf_g ho_58
      refine xr_sld (n := 584) C hX hbl hbA g_275 dL_law_583 rfl ?_
      obtain ⟨x_276, hx_276, ho_58⟩ := yf_b ho_58
      refine xr_callVP (n := 587) (As := [.int (xs (s_58.1 + 1).toNatClampNeg)]) (rest := []) C (kgX9w_mesh l D cy (g := q_29) (a := a0_58) (ad := a1_58) (sh := s_58.2.1) (n := s_58.2.2.1) (L := s_58.2.2.2.1) (k := s_58.2.2.2.2.1) (G := s_58.2.2.2.2.2.1) (i1 := xs (s_58.1 + 1).toNatClampNeg) hx_276) mX9_mesh u_1508 u_1509 u_1510 0 rfl (MW_head _ _ _ _ _ _ _ _ _) rfl 3 [0] [1, 2] rfl (by decide +kernel) rfl rfl rfl rfl (Nat.le_of_ble_eq_true rfl) (Nat.le_of_ble_eq_true rfl) (Nat.le_of_ble_eq_true rfl) g_270.1 g_270.2 dL_law_584 rfl (fun v_277 u_278 hp_279 => ?_)
      obtain ⟨q_280, q_281, rfl, rfl⟩ := hp_279
      refine xr_perm C 3 [0, 1, 2] [] [MW q_29 q_280 q_281 cy x_276.2.1 x_276.2.2.1 x_276.2.2.2.1 x_276.2.2.2.2.1 x_276.2.2.2.2.2, CW q_1 z_28 cy x_269.2.1 x_269.2.2.1, [(q_53, .inr (9, [.long x_269.2.2.2, q_274]))]] rfl (by decide +kernel) rfl ?_
      refine xr_st (st' := [.int x_276.1]) rfl ?_
      refine xr_istore (n := 589) C [(6, .int x_276.1), (5, .int x_269.1), (0, .ref b), (1, .ref q_1), (2, .ref q_29), (3, .ref q_53), (4, .int s_58.1)] dL_law_587 (by decide) rfl rfl ?_
      refine xr_aload_n (n := 590) (j := 4) C dL_law_589 rfl rfl ?_
      obtain ⟨x_282, hx_282, ho_58⟩ := yf_b ho_58
      refine xr_callVP (n := 593) (As := []) (rest := []) C (kgX9w_thrown l D cy (g := q_29) (a := q_280) (ad := q_281) (sh := x_276.2.1) (n := x_276.2.2.1) (L := x_276.2.2.2.1) (k := x_276.2.2.2.2.1) (G := x_276.2.2.2.2.2) hx_282) mX9_thrown u_1290 u_1291 u_1292 0 rfl (MW_head _ _ _ _ _ _ _ _ _) rfl 3 [0] [1, 2] rfl (by decide +kernel) rfl rfl rfl rfl (Nat.le_of_ble_eq_true rfl) (Nat.le_of_ble_eq_true rfl) (Nat.le_of_ble_eq_true rfl) g_270.1 g_270.2 dL_law_590 rfl (fun v_283 u_284 hp_285 => ?_)
      obtain ⟨q_286, q_287, rfl, rfl⟩ := hp_285
      refine xr_perm C 3 [0, 1, 2] [] [MW q_29 q_286 q_287 cy x_282.2.1 x_282.2.2.1 x_282.2.2.2.1 x_282.2.2.2.2.1 x_282.2.2.2.2.2, CW q_1 z_28 cy x_269.2.1 x_269.2.2.1, [(q_53, .inr (9, [.long x_269.2.2.2, q_274]))]] rfl (by decide +kernel) rfl ?_
      refine xr_st (st' := [.int x_282.1]) rfl ?_
      refine xr_iload (n := 595) (j := 1) C dL_law_593 rfl rfl ?_
      refine xr_icmp_eq (tgt := 600) (n := 598) C dL_law_595 rfl rfl (fun c_288 => ?_) (fun c_288 => ?_)
      · replace ho_58 := yf_t c_288 ho_58
        refine xr_iload (n := 602) (j := 1) C dL_law_600 rfl rfl ?_
        refine xr_if_ne (tgt := 618) (n := 605) C dL_law_602 rfl rfl (fun c_289 => ?_) (fun c_289 => ?_)
        · replace ho_58 := yf_f c_289 ho_58
          refine xr_goto (tgt := 888) C dL_law_618 rfl ?_
          refine xr_iinc (j := 6) (v := s_58.1 + 4) (n := 891) C [(4, .int (s_58.1 + 4)), (6, .int x_276.1), (5, .int x_269.1), (0, .ref b), (1, .ref q_1), (2, .ref q_29), (3, .ref q_53)] dL_law_888 rfl rfl (by decide) rfl rfl ?_
          refine xr_goto (tgt := 27) C dL_law_891 rfl ?_
          refine xr_lv (lv' := [(0, .ref b), (1, .ref q_1), (2, .ref q_29), (3, .ref q_53), (4, .int (s_58.1 + 4))]) [3, 4, 5, 6, 0] rfl ?_
          exact hk_58 (s_58.1 + 4, x_282.2.1, x_282.2.2.1, x_282.2.2.2.1, x_282.2.2.2.2.1, x_282.2.2.2.2.2, x_269.2.1, x_269.2.2.1, x_269.2.2.2, s_58.2.2.2.2.2.2.2.2.2.1 + 1, s_58.2.2.2.2.2.2.2.2.2.2 + 6) (Option.some.inj ho_58).symm q_286 q_287 q_274
        · replace ho_58 := yf_t c_289 ho_58
          refine xr_aload_n (n := 606) (j := 5) C dL_law_605 rfl rfl ?_
          refine xr_getN (n := 609) C 2 rfl rfl 0 (by decide) in_X7 RL (List.mem_of_getElem? (i := 46) rfl) rfl (v := .long x_269.2.2.2) rfl dL_law_606 rfl ?_
          refine xr_iload (n := 611) (j := 0) C dL_law_609 rfl rfl ?_
          refine xr_i2l (n := 612) C dL_law_611 rfl ?_
          refine xr_lcmp (n := 613) C dL_law_612 rfl ?_
          refine xr_if_eq (tgt := 618) (n := 616) C dL_law_613 rfl rfl (fun c_290 => ?_) (fun c_290 => ?_)
          · replace ho_58 := yf_t c_290 ho_58
            refine xr_goto (tgt := 888) C dL_law_618 rfl ?_
            refine xr_iinc (j := 6) (v := s_58.1 + 4) (n := 891) C [(4, .int (s_58.1 + 4)), (6, .int x_276.1), (5, .int x_269.1), (0, .ref b), (1, .ref q_1), (2, .ref q_29), (3, .ref q_53)] dL_law_888 rfl rfl (by decide) rfl rfl ?_
            refine xr_goto (tgt := 27) C dL_law_891 rfl ?_
            refine xr_lv (lv' := [(0, .ref b), (1, .ref q_1), (2, .ref q_29), (3, .ref q_53), (4, .int (s_58.1 + 4))]) [3, 4, 5, 6, 0] rfl ?_
            exact hk_58 (s_58.1 + 4, x_282.2.1, x_282.2.2.1, x_282.2.2.2.1, x_282.2.2.2.2.1, x_282.2.2.2.2.2, x_269.2.1, x_269.2.2.1, x_269.2.2.2, s_58.2.2.2.2.2.2.2.2.2.1 + 1, s_58.2.2.2.2.2.2.2.2.2.2 + 6) (Option.some.inj ho_58).symm q_286 q_287 q_274
          · replace ho_58 := yf_f c_290 ho_58
            refine xr_iconst (n := 617) (v := 0) C dL_law_616 rfl rfl ?_
            have e_291 := hx_58 _ (Option.some.inj ho_58).symm
            subst e_291
            replace hR := ybr_r hR
            obtain rfl := Option.some.inj hR
            exact ret 0 rfl g_270.1 g_270.2 dL_law_617
      · replace ho_58 := yf_f c_288 ho_58
        refine xr_iconst (n := 599) (v := 0) C dL_law_598 rfl rfl ?_
        have e_292 := hx_58 _ (Option.some.inj ho_58).symm
        subst e_292
        replace hR := ybr_r hR
        obtain rfl := Option.some.inj hR
        exact ret 0 rfl g_270.1 g_270.2 dL_law_599
    replace ho_58 := yf_f c_267 ho_58
    by_cases c_293 : ((xs s_58.1.toNatClampNeg) &&& 31) = 12
    · replace ho_58 := yf_t c_293 ho_58
      refine xr_tableIn (off := 578) (tgt := 621) C dL_law_43 (by rw [c_293]; decide) (by rw [c_293]; decide) (by rw [c_293]; decide) rfl ?_
      refine xr_aload_n (n := 622) (j := 1) C dL_law_621 rfl rfl ?_
      refine xr_aload_n (n := 623) (j := 0) C dL_law_622 rfl rfl ?_
      refine xr_iload (n := 625) (j := 4) C dL_law_623 rfl rfl ?_
      refine xr_iconst (n := 626) (v := 1) C dL_law_625 rfl rfl ?_
      refine xr_iadd (n := 627) C dL_law_626 rfl ?_
      obtain ⟨g_294, ho_58⟩ := yf_g ho_58
      refine xr_sld (n := 628) C hX hbl hbA g_294 dL_law_627 rfl ?_
      refine xr_aload_n (n := 629) (j := 0) C dL_law_628 rfl rfl ?_
      refine xr_iload (n := 631) (j := 4) C dL_law_629 rfl rfl ?_
      refine xr_iconst (n := 632) (v := 2) C dL_law_631 rfl rfl ?_
      refine xr_iadd (n := 633) C dL_law_632 rfl ?_
      obtain ⟨g_295, ho_58⟩ := yf_g ho_58
      refine xr_sld (n := 634) C hX hbl hbA g_295 dL_law_633 rfl ?_
      refine xr_aload_n (n := 635) (j := 0) C dL_law_634 rfl rfl ?_
      refine xr_iload (n := 637) (j := 4) C dL_law_635 rfl rfl ?_
      refine xr_iconst (n := 638) (v := 3) C dL_law_637 rfl rfl ?_
      refine xr_iadd (n := 639) C dL_law_638 rfl ?_
      obtain ⟨g_296, ho_58⟩ := yf_g ho_58
      refine xr_sld (n := 640) C hX hbl hbA g_296 dL_law_639 rfl ?_
      refine xr_aload_n (n := 641) (j := 3) C dL_law_640 rfl rfl ?_
      obtain ⟨x_297, hx_297, ho_58⟩ := yf_b ho_58
      obtain ⟨g_298, ho_58⟩ := yf_g ho_58
      refine xr_callSW (n := 644) (As := [.ref q_1, .int (xs (s_58.1 + 1).toNatClampNeg), .int (xs (s_58.1 + 2).toNatClampNeg), .int (xs (s_58.1 + 3).toNatClampNeg), .ref q_53]) (rest := []) C (kgL_ofCell l D cy hl0 (x := q_1) (a := z_28) (o := q_53) (os := a2_58) (n := s_58.2.2.2.2.2.2.1) (t := s_58.2.2.2.2.2.2.2.1) (on := s_58.2.2.2.2.2.2.2.2.1) (i1 := xs (s_58.1 + 1).toNatClampNeg) (i2 := xs (s_58.1 + 2).toNatClampNeg) (i3 := xs (s_58.1 + 3).toNatClampNeg) hx_297) mL_ofCell u_876 u_877 3 [1, 2] [0] rfl (by decide +kernel) rfl rfl rfl rfl (Nat.le_of_ble_eq_true rfl) (Nat.le_of_ble_eq_true rfl) (Nat.le_of_ble_eq_true rfl) g_298.1 g_298.2 dL_law_641 rfl (fun v_299 u_300 hp_301 => ?_)
      obtain ⟨q_302, rfl, rfl⟩ := hp_301
      refine xr_perm C 3 [2, 0, 1] [] [MW q_29 a0_58 a1_58 cy s_58.2.1 s_58.2.2.1 s_58.2.2.2.1 s_58.2.2.2.2.1 s_58.2.2.2.2.2.1, CW q_1 z_28 cy x_297.2.1 x_297.2.2.1, [(q_53, .inr (9, [.long x_297.2.2.2, q_302]))]] rfl (by decide +kernel) rfl ?_
      refine xr_st (st' := [.int x_297.1]) rfl ?_
      refine xr_istore (n := 646) C [(5, .int x_297.1), (0, .ref b), (1, .ref q_1), (2, .ref q_29), (3, .ref q_53), (4, .int s_58.1)] dL_law_644 (by decide) rfl rfl ?_
      refine xr_aload_n (n := 647) (j := 3) C dL_law_646 rfl rfl ?_
      refine xr_aload_n (n := 648) (j := 1) C dL_law_647 rfl rfl ?_
      refine xr_iload (n := 650) (j := 5) C dL_law_648 rfl rfl ?_
      refine xr_iconst (n := 651) (v := 1) C dL_law_650 rfl rfl ?_
      refine xr_iadd (n := 652) C dL_law_651 rfl ?_
      obtain ⟨g_303, ho_58⟩ := yf_g ho_58
      refine xr_sld (n := 653) C hX hbl hbA g_303 dL_law_652 rfl ?_
      refine xr_aload_n (n := 654) (j := 1) C dL_law_653 rfl rfl ?_
      refine xr_iload (n := 656) (j := 5) C dL_law_654 rfl rfl ?_
      refine xr_iconst (n := 657) (v := 2) C dL_law_656 rfl rfl ?_
      refine xr_iadd (n := 658) C dL_law_657 rfl ?_
      obtain ⟨g_304, ho_58⟩ := yf_g ho_58
      refine xr_sld (n := 659) C hX hbl hbA g_304 dL_law_658 rfl ?_
      refine xr_aload_n (n := 660) (j := 1) C dL_law_659 rfl rfl ?_
      refine xr_iload (n := 662) (j := 5) C dL_law_660 rfl rfl ?_
      refine xr_iconst (n := 663) (v := 3) C dL_law_662 rfl rfl ?_
      refine xr_iadd (n := 664) C dL_law_663 rfl ?_
      obtain ⟨g_305, ho_58⟩ := yf_g ho_58
      refine xr_sld (n := 665) C hX hbl hbA g_305 dL_law_664 rfl ?_
      obtain ⟨x_306, hx_306, ho_58⟩ := yf_b ho_58
      refine xr_callVP (n := 668) (As := [.int (xs (s_58.1 + 1).toNatClampNeg), .int (xs (s_58.1 + 2).toNatClampNeg), .int (xs (s_58.1 + 3).toNatClampNeg)]) (rest := []) C (kgX9w_ofCell l D cy (g := q_29) (a := a0_58) (ad := a1_58) (sh := s_58.2.1) (n := s_58.2.2.1) (L := s_58.2.2.2.1) (k := s_58.2.2.2.2.1) (G := s_58.2.2.2.2.2.1) (i1 := xs (s_58.1 + 1).toNatClampNeg) (i2 := xs (s_58.1 + 2).toNatClampNeg) (i3 := xs (s_58.1 + 3).toNatClampNeg) hx_306) mX9_ofCell u_1516 u_1517 u_1518 0 rfl (MW_head _ _ _ _ _ _ _ _ _) rfl 3 [0] [1, 2] rfl (by decide +kernel) rfl rfl rfl rfl (Nat.le_of_ble_eq_true rfl) (Nat.le_of_ble_eq_true rfl) (Nat.le_of_ble_eq_true rfl) g_298.1 g_298.2 dL_law_665 rfl (fun v_307 u_308 hp_309 => ?_)
      obtain ⟨q_310, q_311, rfl, rfl⟩ := hp_309
      refine xr_perm C 3 [0, 1, 2] [] [MW q_29 q_310 q_311 cy x_306.2.1 x_306.2.2.1 x_306.2.2.2.1 x_306.2.2.2.2.1 x_306.2.2.2.2.2, CW q_1 z_28 cy x_297.2.1 x_297.2.2.1, [(q_53, .inr (9, [.long x_297.2.2.2, q_302]))]] rfl (by decide +kernel) rfl ?_
      refine xr_st (st' := [.int x_306.1]) rfl ?_
      refine xr_istore (n := 670) C [(6, .int x_306.1), (5, .int x_297.1), (0, .ref b), (1, .ref q_1), (2, .ref q_29), (3, .ref q_53), (4, .int s_58.1)] dL_law_668 (by decide) rfl rfl ?_
      refine xr_goto (tgt := 888) C dL_law_670 rfl ?_
      refine xr_iinc (j := 6) (v := s_58.1 + 4) (n := 891) C [(4, .int (s_58.1 + 4)), (6, .int x_306.1), (5, .int x_297.1), (0, .ref b), (1, .ref q_1), (2, .ref q_29), (3, .ref q_53)] dL_law_888 rfl rfl (by decide) rfl rfl ?_
      refine xr_goto (tgt := 27) C dL_law_891 rfl ?_
      refine xr_lv (lv' := [(0, .ref b), (1, .ref q_1), (2, .ref q_29), (3, .ref q_53), (4, .int (s_58.1 + 4))]) [3, 4, 5, 6, 0] rfl ?_
      exact hk_58 (s_58.1 + 4, x_306.2.1, x_306.2.2.1, x_306.2.2.2.1, x_306.2.2.2.2.1, x_306.2.2.2.2.2, x_297.2.1, x_297.2.2.1, x_297.2.2.2, s_58.2.2.2.2.2.2.2.2.2.1 + 1, s_58.2.2.2.2.2.2.2.2.2.2 + 6) (Option.some.inj ho_58).symm q_310 q_311 q_302
    replace ho_58 := yf_f c_293 ho_58
    by_cases c_312 : ((xs s_58.1.toNatClampNeg) &&& 31) = 13
    · replace ho_58 := yf_t c_312 ho_58
      refine xr_tableIn (off := 630) (tgt := 673) C dL_law_43 (by rw [c_312]; decide) (by rw [c_312]; decide) (by rw [c_312]; decide) rfl ?_
      refine xr_aload_n (n := 674) (j := 1) C dL_law_673 rfl rfl ?_
      refine xr_aload_n (n := 675) (j := 0) C dL_law_674 rfl rfl ?_
      refine xr_iload (n := 677) (j := 4) C dL_law_675 rfl rfl ?_
      refine xr_iconst (n := 678) (v := 1) C dL_law_677 rfl rfl ?_
      refine xr_iadd (n := 679) C dL_law_678 rfl ?_
      obtain ⟨g_313, ho_58⟩ := yf_g ho_58
      refine xr_sld (n := 680) C hX hbl hbA g_313 dL_law_679 rfl ?_
      refine xr_aload_n (n := 681) (j := 0) C dL_law_680 rfl rfl ?_
      refine xr_iload (n := 683) (j := 4) C dL_law_681 rfl rfl ?_
      refine xr_iconst (n := 684) (v := 2) C dL_law_683 rfl rfl ?_
      refine xr_iadd (n := 685) C dL_law_684 rfl ?_
      obtain ⟨g_314, ho_58⟩ := yf_g ho_58
      refine xr_sld (n := 686) C hX hbl hbA g_314 dL_law_685 rfl ?_
      refine xr_aload_n (n := 687) (j := 3) C dL_law_686 rfl rfl ?_
      obtain ⟨x_315, hx_315, ho_58⟩ := yf_b ho_58
      obtain ⟨g_316, ho_58⟩ := yf_g ho_58
      refine xr_callSW (n := 690) (As := [.ref q_1, .int (xs (s_58.1 + 1).toNatClampNeg), .int (xs (s_58.1 + 2).toNatClampNeg), .ref q_53]) (rest := []) C (kgL_result l D cy hl0 (x := q_1) (a := z_28) (o := q_53) (os := a2_58) (n := s_58.2.2.2.2.2.2.1) (t := s_58.2.2.2.2.2.2.2.1) (on := s_58.2.2.2.2.2.2.2.2.1) (i1 := xs (s_58.1 + 1).toNatClampNeg) (i2 := xs (s_58.1 + 2).toNatClampNeg) hx_315) mL_result u_884 u_885 3 [1, 2] [0] rfl (by decide +kernel) rfl rfl rfl rfl (Nat.le_of_ble_eq_true rfl) (Nat.le_of_ble_eq_true rfl) (Nat.le_of_ble_eq_true rfl) g_316.1 g_316.2 dL_law_687 rfl (fun v_317 u_318 hp_319 => ?_)
      obtain ⟨q_320, rfl, rfl⟩ := hp_319
      refine xr_perm C 3 [2, 0, 1] [] [MW q_29 a0_58 a1_58 cy s_58.2.1 s_58.2.2.1 s_58.2.2.2.1 s_58.2.2.2.2.1 s_58.2.2.2.2.2.1, CW q_1 z_28 cy x_315.2.1 x_315.2.2.1, [(q_53, .inr (9, [.long x_315.2.2.2, q_320]))]] rfl (by decide +kernel) rfl ?_
      refine xr_st (st' := [.int x_315.1]) rfl ?_
      refine xr_istore (n := 692) C [(5, .int x_315.1), (0, .ref b), (1, .ref q_1), (2, .ref q_29), (3, .ref q_53), (4, .int s_58.1)] dL_law_690 (by decide) rfl rfl ?_
      refine xr_aload_n (n := 693) (j := 3) C dL_law_692 rfl rfl ?_
      refine xr_aload_n (n := 694) (j := 1) C dL_law_693 rfl rfl ?_
      refine xr_iload (n := 696) (j := 5) C dL_law_694 rfl rfl ?_
      refine xr_iconst (n := 697) (v := 1) C dL_law_696 rfl rfl ?_
      refine xr_iadd (n := 698) C dL_law_697 rfl ?_
      obtain ⟨g_321, ho_58⟩ := yf_g ho_58
      refine xr_sld (n := 699) C hX hbl hbA g_321 dL_law_698 rfl ?_
      refine xr_aload_n (n := 700) (j := 1) C dL_law_699 rfl rfl ?_
      refine xr_iload (n := 702) (j := 5) C dL_law_700 rfl rfl ?_
      refine xr_iconst (n := 703) (v := 2) C dL_law_702 rfl rfl ?_
      refine xr_iadd (n := 704) C dL_law_703 rfl ?_
      obtain ⟨g_322, ho_58⟩ := yf_g ho_58
      refine xr_sld (n := 705) C hX hbl hbA g_322 dL_law_704 rfl ?_
      obtain ⟨x_323, hx_323, ho_58⟩ := yf_b ho_58
      refine xr_callVP (n := 708) (As := [.int (xs (s_58.1 + 1).toNatClampNeg), .int (xs (s_58.1 + 2).toNatClampNeg)]) (rest := []) C (kgX9w_result l D cy (g := q_29) (a := a0_58) (ad := a1_58) (sh := s_58.2.1) (n := s_58.2.2.1) (L := s_58.2.2.2.1) (k := s_58.2.2.2.2.1) (G := s_58.2.2.2.2.2.1) (i1 := xs (s_58.1 + 1).toNatClampNeg) (i2 := xs (s_58.1 + 2).toNatClampNeg) hx_323) mX9_result u_1531 u_1532 u_1533 0 rfl (MW_head _ _ _ _ _ _ _ _ _) rfl 3 [0] [1, 2] rfl (by decide +kernel) rfl rfl rfl rfl (Nat.le_of_ble_eq_true rfl) (Nat.le_of_ble_eq_true rfl) (Nat.le_of_ble_eq_true rfl) g_316.1 g_316.2 dL_law_705 rfl (fun v_324 u_325 hp_326 => ?_)
      obtain ⟨q_327, q_328, rfl, rfl⟩ := hp_326
      refine xr_perm C 3 [0, 1, 2] [] [MW q_29 q_327 q_328 cy x_323.2.1 x_323.2.2.1 x_323.2.2.2.1 x_323.2.2.2.2.1 x_323.2.2.2.2.2, CW q_1 z_28 cy x_315.2.1 x_315.2.2.1, [(q_53, .inr (9, [.long x_315.2.2.2, q_320]))]] rfl (by decide +kernel) rfl ?_
      refine xr_st (st' := [.int x_323.1]) rfl ?_
      refine xr_istore (n := 710) C [(6, .int x_323.1), (5, .int x_315.1), (0, .ref b), (1, .ref q_1), (2, .ref q_29), (3, .ref q_53), (4, .int s_58.1)] dL_law_708 (by decide) rfl rfl ?_
      refine xr_goto (tgt := 888) C dL_law_710 rfl ?_
      refine xr_iinc (j := 6) (v := s_58.1 + 4) (n := 891) C [(4, .int (s_58.1 + 4)), (6, .int x_323.1), (5, .int x_315.1), (0, .ref b), (1, .ref q_1), (2, .ref q_29), (3, .ref q_53)] dL_law_888 rfl rfl (by decide) rfl rfl ?_
      refine xr_goto (tgt := 27) C dL_law_891 rfl ?_
      refine xr_lv (lv' := [(0, .ref b), (1, .ref q_1), (2, .ref q_29), (3, .ref q_53), (4, .int (s_58.1 + 4))]) [3, 4, 5, 6, 0] rfl ?_
      exact hk_58 (s_58.1 + 4, x_323.2.1, x_323.2.2.1, x_323.2.2.2.1, x_323.2.2.2.2.1, x_323.2.2.2.2.2, x_315.2.1, x_315.2.2.1, x_315.2.2.2, s_58.2.2.2.2.2.2.2.2.2.1 + 1, s_58.2.2.2.2.2.2.2.2.2.2 + 6) (Option.some.inj ho_58).symm q_327 q_328 q_320
    replace ho_58 := yf_f c_312 ho_58
    by_cases c_329 : ((xs s_58.1.toNatClampNeg) &&& 31) = 14
    · replace ho_58 := yf_t c_329 ho_58
      refine xr_tableIn (off := 670) (tgt := 713) C dL_law_43 (by rw [c_329]; decide) (by rw [c_329]; decide) (by rw [c_329]; decide) rfl ?_
      refine xr_aload_n (n := 714) (j := 1) C dL_law_713 rfl rfl ?_
      refine xr_aload_n (n := 715) (j := 0) C dL_law_714 rfl rfl ?_
      refine xr_iload (n := 717) (j := 4) C dL_law_715 rfl rfl ?_
      refine xr_iconst (n := 718) (v := 1) C dL_law_717 rfl rfl ?_
      refine xr_iadd (n := 719) C dL_law_718 rfl ?_
      obtain ⟨g_330, ho_58⟩ := yf_g ho_58
      refine xr_sld (n := 720) C hX hbl hbA g_330 dL_law_719 rfl ?_
      refine xr_aload_n (n := 721) (j := 0) C dL_law_720 rfl rfl ?_
      refine xr_iload (n := 723) (j := 4) C dL_law_721 rfl rfl ?_
      refine xr_iconst (n := 724) (v := 2) C dL_law_723 rfl rfl ?_
      refine xr_iadd (n := 725) C dL_law_724 rfl ?_
      obtain ⟨g_331, ho_58⟩ := yf_g ho_58
      refine xr_sld (n := 726) C hX hbl hbA g_331 dL_law_725 rfl ?_
      refine xr_aload_n (n := 727) (j := 3) C dL_law_726 rfl rfl ?_
      obtain ⟨x_332, hx_332, ho_58⟩ := yf_b ho_58
      obtain ⟨g_333, ho_58⟩ := yf_g ho_58
      refine xr_callSW (n := 730) (As := [.ref q_1, .int (xs (s_58.1 + 1).toNatClampNeg), .int (xs (s_58.1 + 2).toNatClampNeg), .ref q_53]) (rest := []) C (kgL_plain l D cy hl0 (x := q_1) (a := z_28) (o := q_53) (os := a2_58) (n := s_58.2.2.2.2.2.2.1) (t := s_58.2.2.2.2.2.2.2.1) (on := s_58.2.2.2.2.2.2.2.2.1) (i1 := xs (s_58.1 + 1).toNatClampNeg) (i2 := xs (s_58.1 + 2).toNatClampNeg) hx_332) mL_plain u_891 u_892 3 [1, 2] [0] rfl (by decide +kernel) rfl rfl rfl rfl (Nat.le_of_ble_eq_true rfl) (Nat.le_of_ble_eq_true rfl) (Nat.le_of_ble_eq_true rfl) g_333.1 g_333.2 dL_law_727 rfl (fun v_334 u_335 hp_336 => ?_)
      obtain ⟨q_337, rfl, rfl⟩ := hp_336
      refine xr_perm C 3 [2, 0, 1] [] [MW q_29 a0_58 a1_58 cy s_58.2.1 s_58.2.2.1 s_58.2.2.2.1 s_58.2.2.2.2.1 s_58.2.2.2.2.2.1, CW q_1 z_28 cy x_332.2.1 x_332.2.2.1, [(q_53, .inr (9, [.long x_332.2.2.2, q_337]))]] rfl (by decide +kernel) rfl ?_
      refine xr_st (st' := [.int x_332.1]) rfl ?_
      refine xr_istore (n := 732) C [(5, .int x_332.1), (0, .ref b), (1, .ref q_1), (2, .ref q_29), (3, .ref q_53), (4, .int s_58.1)] dL_law_730 (by decide) rfl rfl ?_
      refine xr_aload_n (n := 733) (j := 3) C dL_law_732 rfl rfl ?_
      refine xr_aload_n (n := 734) (j := 1) C dL_law_733 rfl rfl ?_
      refine xr_iload (n := 736) (j := 5) C dL_law_734 rfl rfl ?_
      refine xr_iconst (n := 737) (v := 1) C dL_law_736 rfl rfl ?_
      refine xr_iadd (n := 738) C dL_law_737 rfl ?_
      obtain ⟨g_338, ho_58⟩ := yf_g ho_58
      refine xr_sld (n := 739) C hX hbl hbA g_338 dL_law_738 rfl ?_
      refine xr_aload_n (n := 740) (j := 1) C dL_law_739 rfl rfl ?_
      refine xr_iload (n := 742) (j := 5) C dL_law_740 rfl rfl ?_
      refine xr_iconst (n := 743) (v := 2) C dL_law_742 rfl rfl ?_
      refine xr_iadd (n := 744) C dL_law_743 rfl ?_
      obtain ⟨g_339, ho_58⟩ := yf_g ho_58
      refine xr_sld (n := 745) C hX hbl hbA g_339 dL_law_744 rfl ?_
      obtain ⟨x_340, hx_340, ho_58⟩ := yf_b ho_58
      refine xr_callVP (n := 748) (As := [.int (xs (s_58.1 + 1).toNatClampNeg), .int (xs (s_58.1 + 2).toNatClampNeg)]) (rest := []) C (kgX9w_plain l D cy (g := q_29) (a := a0_58) (ad := a1_58) (sh := s_58.2.1) (n := s_58.2.2.1) (L := s_58.2.2.2.1) (k := s_58.2.2.2.2.1) (G := s_58.2.2.2.2.2.1) (i1 := xs (s_58.1 + 1).toNatClampNeg) (i2 := xs (s_58.1 + 2).toNatClampNeg) hx_340) mX9_plain u_1535 u_1536 u_1537 0 rfl (MW_head _ _ _ _ _ _ _ _ _) rfl 3 [0] [1, 2] rfl (by decide +kernel) rfl rfl rfl rfl (Nat.le_of_ble_eq_true rfl) (Nat.le_of_ble_eq_true rfl) (Nat.le_of_ble_eq_true rfl) g_333.1 g_333.2 dL_law_745 rfl (fun v_341 u_342 hp_343 => ?_)
      obtain ⟨q_344, q_345, rfl, rfl⟩ := hp_343
      refine xr_perm C 3 [0, 1, 2] [] [MW q_29 q_344 q_345 cy x_340.2.1 x_340.2.2.1 x_340.2.2.2.1 x_340.2.2.2.2.1 x_340.2.2.2.2.2, CW q_1 z_28 cy x_332.2.1 x_332.2.2.1, [(q_53, .inr (9, [.long x_332.2.2.2, q_337]))]] rfl (by decide +kernel) rfl ?_
      refine xr_st (st' := [.int x_340.1]) rfl ?_
      refine xr_istore (n := 750) C [(6, .int x_340.1), (5, .int x_332.1), (0, .ref b), (1, .ref q_1), (2, .ref q_29), (3, .ref q_53), (4, .int s_58.1)] dL_law_748 (by decide) rfl rfl ?_
      refine xr_goto (tgt := 888) C dL_law_750 rfl ?_
      refine xr_iinc (j := 6) (v := s_58.1 + 4) (n := 891) C [(4, .int (s_58.1 + 4)), (6, .int x_340.1), (5, .int x_332.1), (0, .ref b), (1, .ref q_1), (2, .ref q_29), (3, .ref q_53)] dL_law_888 rfl rfl (by decide) rfl rfl ?_
      refine xr_goto (tgt := 27) C dL_law_891 rfl ?_
      refine xr_lv (lv' := [(0, .ref b), (1, .ref q_1), (2, .ref q_29), (3, .ref q_53), (4, .int (s_58.1 + 4))]) [3, 4, 5, 6, 0] rfl ?_
      exact hk_58 (s_58.1 + 4, x_340.2.1, x_340.2.2.1, x_340.2.2.2.1, x_340.2.2.2.2.1, x_340.2.2.2.2.2, x_332.2.1, x_332.2.2.1, x_332.2.2.2, s_58.2.2.2.2.2.2.2.2.2.1 + 1, s_58.2.2.2.2.2.2.2.2.2.2 + 6) (Option.some.inj ho_58).symm q_344 q_345 q_337
    replace ho_58 := yf_f c_329 ho_58
    by_cases c_346 : ((xs s_58.1.toNatClampNeg) &&& 31) = 15
    · replace ho_58 := yf_t c_346 ho_58
      refine xr_tableIn (off := 710) (tgt := 753) C dL_law_43 (by rw [c_346]; decide) (by rw [c_346]; decide) (by rw [c_346]; decide) rfl ?_
      refine xr_aload_n (n := 754) (j := 1) C dL_law_753 rfl rfl ?_
      refine xr_aload_n (n := 755) (j := 0) C dL_law_754 rfl rfl ?_
      refine xr_iload (n := 757) (j := 4) C dL_law_755 rfl rfl ?_
      refine xr_iconst (n := 758) (v := 1) C dL_law_757 rfl rfl ?_
      refine xr_iadd (n := 759) C dL_law_758 rfl ?_
      obtain ⟨g_347, ho_58⟩ := yf_g ho_58
      refine xr_sld (n := 760) C hX hbl hbA g_347 dL_law_759 rfl ?_
      refine xr_aload_n (n := 761) (j := 3) C dL_law_760 rfl rfl ?_
      obtain ⟨x_348, hx_348, ho_58⟩ := yf_b ho_58
      obtain ⟨g_349, ho_58⟩ := yf_g ho_58
      refine xr_callSW (n := 764) (As := [.ref q_1, .int (xs (s_58.1 + 1).toNatClampNeg), .ref q_53]) (rest := []) C (kgL_row l D cy hl0 (x := q_1) (a := z_28) (o := q_53) (os := a2_58) (n := s_58.2.2.2.2.2.2.1) (t := s_58.2.2.2.2.2.2.2.1) (on := s_58.2.2.2.2.2.2.2.2.1) (i1 := xs (s_58.1 + 1).toNatClampNeg) hx_348) mL_row u_899 u_900 3 [1, 2] [0] rfl (by decide +kernel) rfl rfl rfl rfl (Nat.le_of_ble_eq_true rfl) (Nat.le_of_ble_eq_true rfl) (Nat.le_of_ble_eq_true rfl) g_349.1 g_349.2 dL_law_761 rfl (fun v_350 u_351 hp_352 => ?_)
      obtain ⟨q_353, rfl, rfl⟩ := hp_352
      refine xr_perm C 3 [2, 0, 1] [] [MW q_29 a0_58 a1_58 cy s_58.2.1 s_58.2.2.1 s_58.2.2.2.1 s_58.2.2.2.2.1 s_58.2.2.2.2.2.1, CW q_1 z_28 cy x_348.2.1 x_348.2.2.1, [(q_53, .inr (9, [.long x_348.2.2.2, q_353]))]] rfl (by decide +kernel) rfl ?_
      refine xr_st (st' := [.int x_348.1]) rfl ?_
      refine xr_istore (n := 766) C [(5, .int x_348.1), (0, .ref b), (1, .ref q_1), (2, .ref q_29), (3, .ref q_53), (4, .int s_58.1)] dL_law_764 (by decide) rfl rfl ?_
      refine xr_aload_n (n := 767) (j := 3) C dL_law_766 rfl rfl ?_
      refine xr_aload_n (n := 768) (j := 1) C dL_law_767 rfl rfl ?_
      refine xr_iload (n := 770) (j := 5) C dL_law_768 rfl rfl ?_
      refine xr_iconst (n := 771) (v := 1) C dL_law_770 rfl rfl ?_
      refine xr_iadd (n := 772) C dL_law_771 rfl ?_
      obtain ⟨g_354, ho_58⟩ := yf_g ho_58
      refine xr_sld (n := 773) C hX hbl hbA g_354 dL_law_772 rfl ?_
      obtain ⟨x_355, hx_355, ho_58⟩ := yf_b ho_58
      obtain ⟨g_356, ho_58⟩ := yf_g ho_58
      refine xr_callVP (n := 776) (As := [.int (xs (s_58.1 + 1).toNatClampNeg)]) (rest := []) C (kgX9w_row l D cy (g := q_29) (a := a0_58) (ad := a1_58) (sh := s_58.2.1) (n := s_58.2.2.1) (L := s_58.2.2.2.1) (k := s_58.2.2.2.2.1) (G := s_58.2.2.2.2.2.1) (i1 := xs (s_58.1 + 1).toNatClampNeg) hx_355) mX9_row u_1547 u_1548 u_1549 0 rfl (MW_head _ _ _ _ _ _ _ _ _) rfl 3 [0] [1, 2] rfl (by decide +kernel) rfl rfl rfl rfl (Nat.le_of_ble_eq_true rfl) (Nat.le_of_ble_eq_true rfl) (Nat.le_of_ble_eq_true rfl) g_356.1 g_356.2 dL_law_773 rfl (fun v_357 u_358 hp_359 => ?_)
      obtain ⟨q_360, q_361, q_362, rfl, rfl⟩ := hp_359
      refine xr_perm C 3 [0, 1, 2] [] [MW q_29 q_360 q_361 cy x_355.1 x_355.2.1 x_355.2.2.1 x_355.2.2.2.1 x_355.2.2.2.2, CW q_1 z_28 cy x_348.2.1 x_348.2.2.1, [(q_53, .inr (9, [.long x_348.2.2.2, q_353]))]] rfl (by decide +kernel) rfl ?_
      refine xr_st (st' := [.ref q_362]) rfl ?_
      refine xr_astore (n := 778) C [(6, .ref q_362), (5, .int x_348.1), (0, .ref b), (1, .ref q_1), (2, .ref q_29), (3, .ref q_53), (4, .int s_58.1)] dL_law_776 (by decide) rfl rfl ?_
      refine xr_goto (tgt := 888) C dL_law_778 rfl ?_
      refine xr_iinc (j := 6) (v := s_58.1 + 4) (n := 891) C [(4, .int (s_58.1 + 4)), (6, .ref q_362), (5, .int x_348.1), (0, .ref b), (1, .ref q_1), (2, .ref q_29), (3, .ref q_53)] dL_law_888 rfl rfl (by decide) rfl rfl ?_
      refine xr_goto (tgt := 27) C dL_law_891 rfl ?_
      refine xr_lv (lv' := [(0, .ref b), (1, .ref q_1), (2, .ref q_29), (3, .ref q_53), (4, .int (s_58.1 + 4))]) [3, 4, 5, 6, 0] rfl ?_
      exact hk_58 (s_58.1 + 4, x_355.1, x_355.2.1, x_355.2.2.1, x_355.2.2.2.1, x_355.2.2.2.2, x_348.2.1, x_348.2.2.1, x_348.2.2.2, s_58.2.2.2.2.2.2.2.2.2.1 + 4 + 4, s_58.2.2.2.2.2.2.2.2.2.2 + 40 + 40) (Option.some.inj ho_58).symm q_360 q_361 q_353
    replace ho_58 := yf_f c_346 ho_58
    by_cases c_363 : ((xs s_58.1.toNatClampNeg) &&& 31) = 16
    · replace ho_58 := yf_t c_363 ho_58
      refine xr_tableIn (off := 738) (tgt := 781) C dL_law_43 (by rw [c_363]; decide) (by rw [c_363]; decide) (by rw [c_363]; decide) rfl ?_
      refine xr_aload_n (n := 782) (j := 1) C dL_law_781 rfl rfl ?_
      refine xr_aload_n (n := 783) (j := 0) C dL_law_782 rfl rfl ?_
      refine xr_iload (n := 785) (j := 4) C dL_law_783 rfl rfl ?_
      refine xr_iconst (n := 786) (v := 1) C dL_law_785 rfl rfl ?_
      refine xr_iadd (n := 787) C dL_law_786 rfl ?_
      obtain ⟨g_364, ho_58⟩ := yf_g ho_58
      refine xr_sld (n := 788) C hX hbl hbA g_364 dL_law_787 rfl ?_
      refine xr_aload_n (n := 789) (j := 0) C dL_law_788 rfl rfl ?_
      refine xr_iload (n := 791) (j := 4) C dL_law_789 rfl rfl ?_
      refine xr_iconst (n := 792) (v := 2) C dL_law_791 rfl rfl ?_
      refine xr_iadd (n := 793) C dL_law_792 rfl ?_
      obtain ⟨g_365, ho_58⟩ := yf_g ho_58
      refine xr_sld (n := 794) C hX hbl hbA g_365 dL_law_793 rfl ?_
      refine xr_aload_n (n := 795) (j := 3) C dL_law_794 rfl rfl ?_
      obtain ⟨x_366, hx_366, ho_58⟩ := yf_b ho_58
      obtain ⟨g_367, ho_58⟩ := yf_g ho_58
      refine xr_callSW (n := 798) (As := [.ref q_1, .int (xs (s_58.1 + 1).toNatClampNeg), .int (xs (s_58.1 + 2).toNatClampNeg), .ref q_53]) (rest := []) C (kgL_beats l D cy hl0 (x := q_1) (a := z_28) (o := q_53) (os := a2_58) (n := s_58.2.2.2.2.2.2.1) (t := s_58.2.2.2.2.2.2.2.1) (on := s_58.2.2.2.2.2.2.2.2.1) (i1 := xs (s_58.1 + 1).toNatClampNeg) (i2 := xs (s_58.1 + 2).toNatClampNeg) hx_366) mL_beats u_1172 u_1173 3 [1, 2] [0] rfl (by decide +kernel) rfl rfl rfl rfl (Nat.le_of_ble_eq_true rfl) (Nat.le_of_ble_eq_true rfl) (Nat.le_of_ble_eq_true rfl) g_367.1 g_367.2 dL_law_795 rfl (fun v_368 u_369 hp_370 => ?_)
      obtain ⟨q_371, rfl, rfl⟩ := hp_370
      refine xr_perm C 3 [2, 0, 1] [] [MW q_29 a0_58 a1_58 cy s_58.2.1 s_58.2.2.1 s_58.2.2.2.1 s_58.2.2.2.2.1 s_58.2.2.2.2.2.1, CW q_1 z_28 cy x_366.2.1 x_366.2.2.1, [(q_53, .inr (9, [.long x_366.2.2.2, q_371]))]] rfl (by decide +kernel) rfl ?_
      refine xr_st (st' := [.int x_366.1]) rfl ?_
      refine xr_istore (n := 800) C [(5, .int x_366.1), (0, .ref b), (1, .ref q_1), (2, .ref q_29), (3, .ref q_53), (4, .int s_58.1)] dL_law_798 (by decide) rfl rfl ?_
      refine xr_aload_n (n := 801) (j := 3) C dL_law_800 rfl rfl ?_
      refine xr_aload_n (n := 802) (j := 1) C dL_law_801 rfl rfl ?_
      refine xr_iload (n := 804) (j := 5) C dL_law_802 rfl rfl ?_
      refine xr_iconst (n := 805) (v := 1) C dL_law_804 rfl rfl ?_
      refine xr_iadd (n := 806) C dL_law_805 rfl ?_
      obtain ⟨g_372, ho_58⟩ := yf_g ho_58
      refine xr_sld (n := 807) C hX hbl hbA g_372 dL_law_806 rfl ?_
      refine xr_aload_n (n := 808) (j := 1) C dL_law_807 rfl rfl ?_
      refine xr_iload (n := 810) (j := 5) C dL_law_808 rfl rfl ?_
      refine xr_iconst (n := 811) (v := 2) C dL_law_810 rfl rfl ?_
      refine xr_iadd (n := 812) C dL_law_811 rfl ?_
      obtain ⟨g_373, ho_58⟩ := yf_g ho_58
      refine xr_sld (n := 813) C hX hbl hbA g_373 dL_law_812 rfl ?_
      obtain ⟨x_374, hx_374, ho_58⟩ := yf_b ho_58
      refine xr_callVP (n := 816) (As := [.int (xs (s_58.1 + 1).toNatClampNeg), .int (xs (s_58.1 + 2).toNatClampNeg)]) (rest := []) C (kgX9w_beats l D cy (g := q_29) (a := a0_58) (ad := a1_58) (sh := s_58.2.1) (n := s_58.2.2.1) (L := s_58.2.2.2.1) (k := s_58.2.2.2.2.1) (G := s_58.2.2.2.2.2.1) (i1 := xs (s_58.1 + 1).toNatClampNeg) (i2 := xs (s_58.1 + 2).toNatClampNeg) hx_374) mX9_beats u_1556 u_1557 u_1558 0 rfl (MW_head _ _ _ _ _ _ _ _ _) rfl 3 [0] [1, 2] rfl (by decide +kernel) rfl rfl rfl rfl (Nat.le_of_ble_eq_true rfl) (Nat.le_of_ble_eq_true rfl) (Nat.le_of_ble_eq_true rfl) g_367.1 g_367.2 dL_law_813 rfl (fun v_375 u_376 hp_377 => ?_)
      obtain ⟨q_378, q_379, rfl, rfl⟩ := hp_377
      refine xr_perm C 3 [0, 1, 2] [] [MW q_29 q_378 q_379 cy x_374.2.1 x_374.2.2.1 x_374.2.2.2.1 x_374.2.2.2.2.1 x_374.2.2.2.2.2, CW q_1 z_28 cy x_366.2.1 x_366.2.2.1, [(q_53, .inr (9, [.long x_366.2.2.2, q_371]))]] rfl (by decide +kernel) rfl ?_
      refine xr_st (st' := [.int x_374.1]) rfl ?_
      refine xr_istore (n := 818) C [(6, .int x_374.1), (5, .int x_366.1), (0, .ref b), (1, .ref q_1), (2, .ref q_29), (3, .ref q_53), (4, .int s_58.1)] dL_law_816 (by decide) rfl rfl ?_
      refine xr_goto (tgt := 888) C dL_law_818 rfl ?_
      refine xr_iinc (j := 6) (v := s_58.1 + 4) (n := 891) C [(4, .int (s_58.1 + 4)), (6, .int x_374.1), (5, .int x_366.1), (0, .ref b), (1, .ref q_1), (2, .ref q_29), (3, .ref q_53)] dL_law_888 rfl rfl (by decide) rfl rfl ?_
      refine xr_goto (tgt := 27) C dL_law_891 rfl ?_
      refine xr_lv (lv' := [(0, .ref b), (1, .ref q_1), (2, .ref q_29), (3, .ref q_53), (4, .int (s_58.1 + 4))]) [3, 4, 5, 6, 0] rfl ?_
      exact hk_58 (s_58.1 + 4, x_374.2.1, x_374.2.2.1, x_374.2.2.2.1, x_374.2.2.2.2.1, x_374.2.2.2.2.2, x_366.2.1, x_366.2.2.1, x_366.2.2.2, s_58.2.2.2.2.2.2.2.2.2.1 + 1, s_58.2.2.2.2.2.2.2.2.2.2 + 6) (Option.some.inj ho_58).symm q_378 q_379 q_371
    replace ho_58 := yf_f c_363 ho_58
    by_cases c_380 : ((xs s_58.1.toNatClampNeg) &&& 31) = 17
    · replace ho_58 := yf_t c_380 ho_58
      refine xr_tableIn (off := 778) (tgt := 821) C dL_law_43 (by rw [c_380]; decide) (by rw [c_380]; decide) (by rw [c_380]; decide) rfl ?_
      refine xr_aload_n (n := 822) (j := 1) C dL_law_821 rfl rfl ?_
      refine xr_aload_n (n := 823) (j := 0) C dL_law_822 rfl rfl ?_
      refine xr_iload (n := 825) (j := 4) C dL_law_823 rfl rfl ?_
      refine xr_iconst (n := 826) (v := 1) C dL_law_825 rfl rfl ?_
      refine xr_iadd (n := 827) C dL_law_826 rfl ?_
      obtain ⟨g_381, ho_58⟩ := yf_g ho_58
      refine xr_sld (n := 828) C hX hbl hbA g_381 dL_law_827 rfl ?_
      refine xr_aload_n (n := 829) (j := 3) C dL_law_828 rfl rfl ?_
      obtain ⟨x_382, hx_382, ho_58⟩ := yf_b ho_58
      obtain ⟨g_383, ho_58⟩ := yf_g ho_58
      refine xr_callSW (n := 832) (As := [.ref q_1, .int (xs (s_58.1 + 1).toNatClampNeg), .ref q_53]) (rest := []) C (kgL_best l D cy hl0 (x := q_1) (a := z_28) (o := q_53) (os := a2_58) (n := s_58.2.2.2.2.2.2.1) (t := s_58.2.2.2.2.2.2.2.1) (on := s_58.2.2.2.2.2.2.2.2.1) (i1 := xs (s_58.1 + 1).toNatClampNeg) hx_382) mL_best u_1180 u_1181 3 [1, 2] [0] rfl (by decide +kernel) rfl rfl rfl rfl (Nat.le_of_ble_eq_true rfl) (Nat.le_of_ble_eq_true rfl) (Nat.le_of_ble_eq_true rfl) g_383.1 g_383.2 dL_law_829 rfl (fun v_384 u_385 hp_386 => ?_)
      obtain ⟨q_387, rfl, rfl⟩ := hp_386
      refine xr_perm C 3 [2, 0, 1] [] [MW q_29 a0_58 a1_58 cy s_58.2.1 s_58.2.2.1 s_58.2.2.2.1 s_58.2.2.2.2.1 s_58.2.2.2.2.2.1, CW q_1 z_28 cy x_382.2.1 x_382.2.2.1, [(q_53, .inr (9, [.long x_382.2.2.2, q_387]))]] rfl (by decide +kernel) rfl ?_
      refine xr_st (st' := [.int x_382.1]) rfl ?_
      refine xr_istore (n := 834) C [(5, .int x_382.1), (0, .ref b), (1, .ref q_1), (2, .ref q_29), (3, .ref q_53), (4, .int s_58.1)] dL_law_832 (by decide) rfl rfl ?_
      refine xr_aload_n (n := 835) (j := 3) C dL_law_834 rfl rfl ?_
      refine xr_aload_n (n := 836) (j := 1) C dL_law_835 rfl rfl ?_
      refine xr_iload (n := 838) (j := 5) C dL_law_836 rfl rfl ?_
      refine xr_iconst (n := 839) (v := 1) C dL_law_838 rfl rfl ?_
      refine xr_iadd (n := 840) C dL_law_839 rfl ?_
      obtain ⟨g_388, ho_58⟩ := yf_g ho_58
      refine xr_sld (n := 841) C hX hbl hbA g_388 dL_law_840 rfl ?_
      obtain ⟨x_389, hx_389, ho_58⟩ := yf_b ho_58
      obtain ⟨g_390, ho_58⟩ := yf_g ho_58
      refine xr_callVP (n := 844) (As := [.int (xs (s_58.1 + 1).toNatClampNeg)]) (rest := []) C (kgX9w_best l D cy (g := q_29) (a := a0_58) (ad := a1_58) (sh := s_58.2.1) (n := s_58.2.2.1) (L := s_58.2.2.2.1) (k := s_58.2.2.2.2.1) (G := s_58.2.2.2.2.2.1) (i1 := xs (s_58.1 + 1).toNatClampNeg) hx_389) mX9_best u_1560 u_1561 u_1562 0 rfl (MW_head _ _ _ _ _ _ _ _ _) rfl 3 [0] [1, 2] rfl (by decide +kernel) rfl rfl rfl rfl (Nat.le_of_ble_eq_true rfl) (Nat.le_of_ble_eq_true rfl) (Nat.le_of_ble_eq_true rfl) g_390.1 g_390.2 dL_law_841 rfl (fun v_391 u_392 hp_393 => ?_)
      obtain ⟨q_394, q_395, rfl, rfl⟩ := hp_393
      refine xr_perm C 3 [0, 1, 2] [] [MW q_29 q_394 q_395 cy x_389.2.1 x_389.2.2.1 x_389.2.2.2.1 x_389.2.2.2.2.1 x_389.2.2.2.2.2, CW q_1 z_28 cy x_382.2.1 x_382.2.2.1, [(q_53, .inr (9, [.long x_382.2.2.2, q_387]))]] rfl (by decide +kernel) rfl ?_
      refine xr_st (st' := [.int x_389.1]) rfl ?_
      refine xr_istore (n := 846) C [(6, .int x_389.1), (5, .int x_382.1), (0, .ref b), (1, .ref q_1), (2, .ref q_29), (3, .ref q_53), (4, .int s_58.1)] dL_law_844 (by decide) rfl rfl ?_
      refine xr_goto (tgt := 888) C dL_law_846 rfl ?_
      refine xr_iinc (j := 6) (v := s_58.1 + 4) (n := 891) C [(4, .int (s_58.1 + 4)), (6, .int x_389.1), (5, .int x_382.1), (0, .ref b), (1, .ref q_1), (2, .ref q_29), (3, .ref q_53)] dL_law_888 rfl rfl (by decide) rfl rfl ?_
      refine xr_goto (tgt := 27) C dL_law_891 rfl ?_
      refine xr_lv (lv' := [(0, .ref b), (1, .ref q_1), (2, .ref q_29), (3, .ref q_53), (4, .int (s_58.1 + 4))]) [3, 4, 5, 6, 0] rfl ?_
      exact hk_58 (s_58.1 + 4, x_389.2.1, x_389.2.2.1, x_389.2.2.2.1, x_389.2.2.2.2.1, x_389.2.2.2.2.2, x_382.2.1, x_382.2.2.1, x_382.2.2.2, s_58.2.2.2.2.2.2.2.2.2.1 + 1 + 30, s_58.2.2.2.2.2.2.2.2.2.2 + 6 + 60) (Option.some.inj ho_58).symm q_394 q_395 q_387
    replace ho_58 := yf_f c_380 ho_58
    by_cases c_396 : ((xs s_58.1.toNatClampNeg) &&& 31) = 18
    · replace ho_58 := yf_t c_396 ho_58
      refine xr_tableIn (off := 806) (tgt := 849) C dL_law_43 (by rw [c_396]; decide) (by rw [c_396]; decide) (by rw [c_396]; decide) rfl ?_
      refine xr_aload_n (n := 850) (j := 1) C dL_law_849 rfl rfl ?_
      obtain ⟨x_397, hx_397, ho_58⟩ := yf_b ho_58
      refine xr_callVP (n := 853) (As := []) (rest := []) C (kgX6_saved l D cy (x := q_1) (a := z_28) (n := s_58.2.2.2.2.2.2.1) (t := s_58.2.2.2.2.2.2.2.1) hx_397) mX6_saved u_308 u_309 u_310 1 rfl (CW_head _ _ _ _ _) rfl 3 [1] [0, 2] rfl (by decide +kernel) rfl rfl rfl rfl (Nat.le_of_ble_eq_true rfl) (Nat.le_of_ble_eq_true rfl) (Nat.le_of_ble_eq_true rfl) g_60.1 g_60.2 dL_law_850 rfl (fun v_398 u_399 hp_400 => ?_)
      obtain ⟨rfl, rfl⟩ := hp_400
      refine xr_perm C 3 [1, 0, 2] [] [MW q_29 a0_58 a1_58 cy s_58.2.1 s_58.2.2.1 s_58.2.2.2.1 s_58.2.2.2.2.1 s_58.2.2.2.2.2.1, CW q_1 z_28 cy x_397.2.1 x_397.2.2, [(q_53, .inr (9, [.long s_58.2.2.2.2.2.2.2.2.1, a2_58]))]] rfl (by decide +kernel) rfl ?_
      refine xr_st (st' := [.int x_397.1]) rfl ?_
      refine xr_pop (n := 854) C dL_law_853 rfl rfl ?_
      refine xr_aload_n (n := 855) (j := 2) C dL_law_854 rfl rfl ?_
      obtain ⟨x_401, hx_401, ho_58⟩ := yf_b ho_58
      obtain ⟨g_402, ho_58⟩ := yf_g ho_58
      refine xr_callVP (n := 858) (As := []) (rest := []) C (kgX9w_saved l D cy (g := q_29) (a := a0_58) (ad := a1_58) (sh := s_58.2.1) (n := s_58.2.2.1) (L := s_58.2.2.2.1) (k := s_58.2.2.2.2.1) (G := s_58.2.2.2.2.2.1) hx_401) mX9_saved u_1568 u_1569 u_1570 0 rfl (MW_head _ _ _ _ _ _ _ _ _) rfl 3 [0] [1, 2] rfl (by decide +kernel) rfl rfl rfl rfl (Nat.le_of_ble_eq_true rfl) (Nat.le_of_ble_eq_true rfl) (Nat.le_of_ble_eq_true rfl) g_402.1 g_402.2 dL_law_855 rfl (fun v_403 u_404 hp_405 => ?_)
      obtain ⟨q_406, q_407, rfl, rfl⟩ := hp_405
      refine xr_perm C 3 [0, 1, 2] [] [MW q_29 q_406 q_407 cy x_401.2.1 x_401.2.2.1 x_401.2.2.2.1 x_401.2.2.2.2.1 x_401.2.2.2.2.2, CW q_1 z_28 cy x_397.2.1 x_397.2.2, [(q_53, .inr (9, [.long s_58.2.2.2.2.2.2.2.2.1, a2_58]))]] rfl (by decide +kernel) rfl ?_
      refine xr_st (st' := [.int x_401.1]) rfl ?_
      refine xr_pop (n := 859) C dL_law_858 rfl rfl ?_
      refine xr_goto (tgt := 888) C dL_law_859 rfl ?_
      refine xr_iinc (j := 4) (v := s_58.1 + 4) (n := 891) C [(4, .int (s_58.1 + 4)), (0, .ref b), (1, .ref q_1), (2, .ref q_29), (3, .ref q_53)] dL_law_888 rfl rfl (by decide) rfl rfl ?_
      refine xr_goto (tgt := 27) C dL_law_891 rfl ?_
      refine xr_lv (lv' := [(0, .ref b), (1, .ref q_1), (2, .ref q_29), (3, .ref q_53), (4, .int (s_58.1 + 4))]) [1, 2, 3, 4, 0] rfl ?_
      exact hk_58 (s_58.1 + 4, x_401.2.1, x_401.2.2.1, x_401.2.2.2.1, x_401.2.2.2.2.1, x_401.2.2.2.2.2, x_397.2.1, x_397.2.2, s_58.2.2.2.2.2.2.2.2.1, s_58.2.2.2.2.2.2.2.2.2.1 + 60, s_58.2.2.2.2.2.2.2.2.2.2 + 120) (Option.some.inj ho_58).symm q_406 q_407 a2_58
    replace ho_58 := yf_f c_396 ho_58
    by_cases c_408 : ((xs s_58.1.toNatClampNeg) &&& 31) = 19
    · replace ho_58 := yf_t c_408 ho_58
      refine xr_tableIn (off := 819) (tgt := 862) C dL_law_43 (by rw [c_408]; decide) (by rw [c_408]; decide) (by rw [c_408]; decide) rfl ?_
      refine xr_aload_n (n := 863) (j := 1) C dL_law_862 rfl rfl ?_
      obtain ⟨x_409, hx_409, ho_58⟩ := yf_b ho_58
      refine xr_callVP (n := 866) (As := []) (rest := []) C (kgX6_isSound l D cy (x := q_1) (a := z_28) (n := s_58.2.2.2.2.2.2.1) (t := s_58.2.2.2.2.2.2.2.1) hx_409) mX6_isSound u_391 u_392 u_393 1 rfl (CW_head _ _ _ _ _) rfl 3 [1] [0, 2] rfl (by decide +kernel) rfl rfl rfl rfl (Nat.le_of_ble_eq_true rfl) (Nat.le_of_ble_eq_true rfl) (Nat.le_of_ble_eq_true rfl) g_60.1 g_60.2 dL_law_863 rfl (fun v_410 u_411 hp_412 => ?_)
      obtain ⟨rfl, rfl⟩ := hp_412
      refine xr_perm C 3 [1, 0, 2] [] [MW q_29 a0_58 a1_58 cy s_58.2.1 s_58.2.2.1 s_58.2.2.2.1 s_58.2.2.2.2.1 s_58.2.2.2.2.2.1, CW q_1 z_28 cy x_409.2.1 x_409.2.2, [(q_53, .inr (9, [.long s_58.2.2.2.2.2.2.2.2.1, a2_58]))]] rfl (by decide +kernel) rfl ?_
      refine xr_st (st' := [.int x_409.1]) rfl ?_
      refine xr_pop (n := 867) C dL_law_866 rfl rfl ?_
      refine xr_aload_n (n := 868) (j := 2) C dL_law_867 rfl rfl ?_
      obtain ⟨x_413, hx_413, ho_58⟩ := yf_b ho_58
      obtain ⟨g_414, ho_58⟩ := yf_g ho_58
      refine xr_callVP (n := 871) (As := []) (rest := []) C (kgX9w_isSound l D cy (g := q_29) (a := a0_58) (ad := a1_58) (sh := s_58.2.1) (n := s_58.2.2.1) (L := s_58.2.2.2.1) (k := s_58.2.2.2.2.1) (G := s_58.2.2.2.2.2.1) hx_413) mX9_isSound u_1576 u_1577 u_1578 0 rfl (MW_head _ _ _ _ _ _ _ _ _) rfl 3 [0] [1, 2] rfl (by decide +kernel) rfl rfl rfl rfl (Nat.le_of_ble_eq_true rfl) (Nat.le_of_ble_eq_true rfl) (Nat.le_of_ble_eq_true rfl) g_414.1 g_414.2 dL_law_868 rfl (fun v_415 u_416 hp_417 => ?_)
      obtain ⟨q_418, q_419, rfl, rfl⟩ := hp_417
      refine xr_perm C 3 [0, 1, 2] [] [MW q_29 q_418 q_419 cy x_413.2.1 x_413.2.2.1 x_413.2.2.2.1 x_413.2.2.2.2.1 x_413.2.2.2.2.2, CW q_1 z_28 cy x_409.2.1 x_409.2.2, [(q_53, .inr (9, [.long s_58.2.2.2.2.2.2.2.2.1, a2_58]))]] rfl (by decide +kernel) rfl ?_
      refine xr_st (st' := [.int x_413.1]) rfl ?_
      refine xr_pop (n := 872) C dL_law_871 rfl rfl ?_
      refine xr_goto (tgt := 888) C dL_law_872 rfl ?_
      refine xr_iinc (j := 4) (v := s_58.1 + 4) (n := 891) C [(4, .int (s_58.1 + 4)), (0, .ref b), (1, .ref q_1), (2, .ref q_29), (3, .ref q_53)] dL_law_888 rfl rfl (by decide) rfl rfl ?_
      refine xr_goto (tgt := 27) C dL_law_891 rfl ?_
      refine xr_lv (lv' := [(0, .ref b), (1, .ref q_1), (2, .ref q_29), (3, .ref q_53), (4, .int (s_58.1 + 4))]) [1, 2, 3, 4, 0] rfl ?_
      exact hk_58 (s_58.1 + 4, x_413.2.1, x_413.2.2.1, x_413.2.2.2.1, x_413.2.2.2.2.1, x_413.2.2.2.2.2, x_409.2.1, x_409.2.2, s_58.2.2.2.2.2.2.2.2.1, s_58.2.2.2.2.2.2.2.2.2.1 + 30, s_58.2.2.2.2.2.2.2.2.2.2 + 60) (Option.some.inj ho_58).symm q_418 q_419 a2_58
    replace ho_58 := yf_f c_408 ho_58
    by_cases c_420 : ((xs s_58.1.toNatClampNeg) &&& 31) = 20
    · replace ho_58 := yf_t c_420 ho_58
      refine xr_tableIn (off := 832) (tgt := 875) C dL_law_43 (by rw [c_420]; decide) (by rw [c_420]; decide) (by rw [c_420]; decide) rfl ?_
      refine xr_aload_n (n := 876) (j := 1) C dL_law_875 rfl rfl ?_
      obtain ⟨x_421, hx_421, ho_58⟩ := yf_b ho_58
      refine xr_callVP (n := 879) (As := []) (rest := []) C (kgX6_digest l D cy (x := q_1) (a := z_28) (n := s_58.2.2.2.2.2.2.1) (t := s_58.2.2.2.2.2.2.2.1) hx_421) mX6_digest u_456 u_457 u_458 1 rfl (CW_head _ _ _ _ _) rfl 3 [1] [0, 2] rfl (by decide +kernel) rfl rfl rfl rfl (Nat.le_of_ble_eq_true rfl) (Nat.le_of_ble_eq_true rfl) (Nat.le_of_ble_eq_true rfl) g_60.1 g_60.2 dL_law_876 rfl (fun v_422 u_423 hp_424 => ?_)
      obtain ⟨rfl, rfl⟩ := hp_424
      refine xr_perm C 3 [1, 0, 2] [] [MW q_29 a0_58 a1_58 cy s_58.2.1 s_58.2.2.1 s_58.2.2.2.1 s_58.2.2.2.2.1 s_58.2.2.2.2.2.1, CW q_1 z_28 cy x_421.2.1 x_421.2.2, [(q_53, .inr (9, [.long s_58.2.2.2.2.2.2.2.2.1, a2_58]))]] rfl (by decide +kernel) rfl ?_
      refine xr_st (st' := [.long x_421.1]) rfl ?_
      refine xr_pop2L (n := 880) C dL_law_879 rfl ?_
      refine xr_aload_n (n := 881) (j := 2) C dL_law_880 rfl rfl ?_
      obtain ⟨x_425, hx_425, ho_58⟩ := yf_b ho_58
      obtain ⟨g_426, ho_58⟩ := yf_g ho_58
      refine xr_callVP (n := 884) (As := []) (rest := []) C (kgX9w_digest l D cy (g := q_29) (a := a0_58) (ad := a1_58) (sh := s_58.2.1) (n := s_58.2.2.1) (L := s_58.2.2.2.1) (k := s_58.2.2.2.2.1) (G := s_58.2.2.2.2.2.1) hx_425) mX9_digest u_1588 u_1589 u_1590 0 rfl (MW_head _ _ _ _ _ _ _ _ _) rfl 3 [0] [1, 2] rfl (by decide +kernel) rfl rfl rfl rfl (Nat.le_of_ble_eq_true rfl) (Nat.le_of_ble_eq_true rfl) (Nat.le_of_ble_eq_true rfl) g_426.1 g_426.2 dL_law_881 rfl (fun v_427 u_428 hp_429 => ?_)
      obtain ⟨q_430, q_431, rfl, rfl⟩ := hp_429
      refine xr_perm C 3 [0, 1, 2] [] [MW q_29 q_430 q_431 cy x_425.2.1 x_425.2.2.1 x_425.2.2.2.1 x_425.2.2.2.2.1 x_425.2.2.2.2.2, CW q_1 z_28 cy x_421.2.1 x_421.2.2, [(q_53, .inr (9, [.long s_58.2.2.2.2.2.2.2.2.1, a2_58]))]] rfl (by decide +kernel) rfl ?_
      refine xr_st (st' := [.long x_425.1]) rfl ?_
      refine xr_pop2L (n := 885) C dL_law_884 rfl ?_
      refine xr_goto (tgt := 888) C dL_law_885 rfl ?_
      refine xr_iinc (j := 4) (v := s_58.1 + 4) (n := 891) C [(4, .int (s_58.1 + 4)), (0, .ref b), (1, .ref q_1), (2, .ref q_29), (3, .ref q_53)] dL_law_888 rfl rfl (by decide) rfl rfl ?_
      refine xr_goto (tgt := 27) C dL_law_891 rfl ?_
      refine xr_lv (lv' := [(0, .ref b), (1, .ref q_1), (2, .ref q_29), (3, .ref q_53), (4, .int (s_58.1 + 4))]) [1, 2, 3, 4, 0] rfl ?_
      exact hk_58 (s_58.1 + 4, x_425.2.1, x_425.2.2.1, x_425.2.2.2.1, x_425.2.2.2.2.1, x_425.2.2.2.2.2, x_421.2.1, x_421.2.2, s_58.2.2.2.2.2.2.2.2.1, s_58.2.2.2.2.2.2.2.2.2.1 + 300, s_58.2.2.2.2.2.2.2.2.2.2 + 600) (Option.some.inj ho_58).symm q_430 q_431 a2_58
    replace ho_58 := yf_f c_420 ho_58
    refine xr_tableOut (tgt := 888) C dL_law_43 (ytab_out (fun k h1 h2 => by
      rcases (show k = 0 ∨ k = 1 ∨ k = 2 ∨ k = 3 ∨ k = 4 ∨ k = 5 ∨ k = 6 ∨ k = 7 ∨ k = 8 ∨ k = 9 ∨ k = 10 ∨ k = 11 ∨ k = 12 ∨ k = 13 ∨ k = 14 ∨ k = 15 ∨ k = 16 ∨ k = 17 ∨ k = 18 ∨ k = 19 ∨ k = 20 by omega) with rfl | rfl | rfl | rfl | rfl | rfl | rfl | rfl | rfl | rfl | rfl | rfl | rfl | rfl | rfl | rfl | rfl | rfl | rfl | rfl | rfl
      · exact c_64
      · exact c_84
      · exact c_103
      · exact c_122
      · exact c_137
      · exact c_162
      · exact c_191
      · exact c_205
      · exact c_219
      · exact c_235
      · exact c_254
      · exact c_267
      · exact c_293
      · exact c_312
      · exact c_329
      · exact c_346
      · exact c_363
      · exact c_380
      · exact c_396
      · exact c_408
      · exact c_420)) rfl ?_
    refine xr_iinc (j := 4) (v := s_58.1 + 4) (n := 891) C [(4, .int (s_58.1 + 4)), (0, .ref b), (1, .ref q_1), (2, .ref q_29), (3, .ref q_53)] dL_law_888 rfl rfl (by decide) rfl rfl ?_
    refine xr_goto (tgt := 27) C dL_law_891 rfl ?_
    refine xr_lv (lv' := [(0, .ref b), (1, .ref q_1), (2, .ref q_29), (3, .ref q_53), (4, .int (s_58.1 + 4))]) [1, 2, 3, 4, 0] rfl ?_
    exact hk_58 (s_58.1 + 4, s_58.2.1, s_58.2.2.1, s_58.2.2.2.1, s_58.2.2.2.2.1, s_58.2.2.2.2.2.1, s_58.2.2.2.2.2.2.1, s_58.2.2.2.2.2.2.2.1, s_58.2.2.2.2.2.2.2.2.1, s_58.2.2.2.2.2.2.2.2.2.1, s_58.2.2.2.2.2.2.2.2.2.2) (Option.some.inj ho_58).symm a0_58 a1_58 a2_58
